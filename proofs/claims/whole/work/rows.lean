section
/-- a private method of a class that the tables say can be made, by its rows of tables_1 -/
def lw_okq (q : MethodName × Nat) : Prop := (q.1.cls ≠ "java/lang/invoke/MethodHandle" ∧ q.1.cls ≠ "java/lang/invoke/VarHandle") ∧ Cond.instantiable q.1.cls q.2 ∈ tables_1 ∧ Cond.privateMethod q.1 ∈ tables_1 ∧ Cond.instanceMethod q.1 ∈ tables_1
theorem lw_p0 : lw_okq (⟨"BlockCard", "renew", "(IIII)V"⟩, 17) := ⟨⟨by decide +kernel, by decide +kernel⟩, List.mem_of_getElem? (i := 11) (by decide +kernel), List.mem_of_getElem? (i := 144) (by decide +kernel), List.mem_of_getElem? (i := 145) (by decide +kernel)⟩
theorem lw_p1 : lw_okq (⟨"BlockCard", "goDark", "()V"⟩, 17) := ⟨⟨by decide +kernel, by decide +kernel⟩, List.mem_of_getElem? (i := 11) (by decide +kernel), List.mem_of_getElem? (i := 161) (by decide +kernel), List.mem_of_getElem? (i := 162) (by decide +kernel)⟩
theorem lw_p2 : lw_okq (⟨"BlockCard", "isPowered", "()Z"⟩, 17) := ⟨⟨by decide +kernel, by decide +kernel⟩, List.mem_of_getElem? (i := 11) (by decide +kernel), List.mem_of_getElem? (i := 249) (by decide +kernel), List.mem_of_getElem? (i := 250) (by decide +kernel)⟩
theorem lw_p3 : lw_okq (⟨"BlockCard", "start", "()V"⟩, 17) := ⟨⟨by decide +kernel, by decide +kernel⟩, List.mem_of_getElem? (i := 11) (by decide +kernel), List.mem_of_getElem? (i := 253) (by decide +kernel), List.mem_of_getElem? (i := 254) (by decide +kernel)⟩
theorem lw_p4 : lw_okq (⟨"BlockCard", "tearUnfinished", "()V"⟩, 17) := ⟨⟨by decide +kernel, by decide +kernel⟩, List.mem_of_getElem? (i := 11) (by decide +kernel), List.mem_of_getElem? (i := 261) (by decide +kernel), List.mem_of_getElem? (i := 262) (by decide +kernel)⟩
theorem lw_p5 : lw_okq (⟨"BlockCard$Memory", "blank", "(IIZ)V"⟩, 6) := ⟨⟨by decide +kernel, by decide +kernel⟩, List.mem_of_getElem? (i := 19) (by decide +kernel), List.mem_of_getElem? (i := 277) (by decide +kernel), List.mem_of_getElem? (i := 278) (by decide +kernel)⟩
theorem lw_p6 : lw_okq (⟨"BlockCard$Memory", "dropWritten", "(II)V"⟩, 6) := ⟨⟨by decide +kernel, by decide +kernel⟩, List.mem_of_getElem? (i := 19) (by decide +kernel), List.mem_of_getElem? (i := 281) (by decide +kernel), List.mem_of_getElem? (i := 282) (by decide +kernel)⟩
theorem lw_p7 : lw_okq (⟨"BlockCard", "hears", "(III)Z"⟩, 17) := ⟨⟨by decide +kernel, by decide +kernel⟩, List.mem_of_getElem? (i := 11) (by decide +kernel), List.mem_of_getElem? (i := 338) (by decide +kernel), List.mem_of_getElem? (i := 339) (by decide +kernel)⟩
theorem lw_p8 : lw_okq (⟨"BlockCard", "note", "(I)V"⟩, 17) := ⟨⟨by decide +kernel, by decide +kernel⟩, List.mem_of_getElem? (i := 11) (by decide +kernel), List.mem_of_getElem? (i := 342) (by decide +kernel), List.mem_of_getElem? (i := 343) (by decide +kernel)⟩
theorem lw_p9 : lw_okq (⟨"BlockCard", "isOpenTo", "(I)Z"⟩, 17) := ⟨⟨by decide +kernel, by decide +kernel⟩, List.mem_of_getElem? (i := 11) (by decide +kernel), List.mem_of_getElem? (i := 346) (by decide +kernel), List.mem_of_getElem? (i := 347) (by decide +kernel)⟩
theorem lw_p10 : lw_okq (⟨"BlockCard", "obey", "(II)I"⟩, 17) := ⟨⟨by decide +kernel, by decide +kernel⟩, List.mem_of_getElem? (i := 11) (by decide +kernel), List.mem_of_getElem? (i := 361) (by decide +kernel), List.mem_of_getElem? (i := 362) (by decide +kernel)⟩
theorem lw_p11 : lw_okq (⟨"BlockCard", "reset", "()I"⟩, 17) := ⟨⟨by decide +kernel, by decide +kernel⟩, List.mem_of_getElem? (i := 11) (by decide +kernel), List.mem_of_getElem? (i := 365) (by decide +kernel), List.mem_of_getElem? (i := 366) (by decide +kernel)⟩
theorem lw_p12 : lw_okq (⟨"BlockCard", "wake", "()I"⟩, 17) := ⟨⟨by decide +kernel, by decide +kernel⟩, List.mem_of_getElem? (i := 11) (by decide +kernel), List.mem_of_getElem? (i := 369) (by decide +kernel), List.mem_of_getElem? (i := 370) (by decide +kernel)⟩
theorem lw_p13 : lw_okq (⟨"BlockCard", "tellNumber", "()I"⟩, 17) := ⟨⟨by decide +kernel, by decide +kernel⟩, List.mem_of_getElem? (i := 11) (by decide +kernel), List.mem_of_getElem? (i := 373) (by decide +kernel), List.mem_of_getElem? (i := 374) (by decide +kernel)⟩
theorem lw_p14 : lw_okq (⟨"BlockCard", "takeAddress", "()I"⟩, 17) := ⟨⟨by decide +kernel, by decide +kernel⟩, List.mem_of_getElem? (i := 11) (by decide +kernel), List.mem_of_getElem? (i := 377) (by decide +kernel), List.mem_of_getElem? (i := 378) (by decide +kernel)⟩
theorem lw_p15 : lw_okq (⟨"BlockCard", "choose", "(I)I"⟩, 17) := ⟨⟨by decide +kernel, by decide +kernel⟩, List.mem_of_getElem? (i := 11) (by decide +kernel), List.mem_of_getElem? (i := 381) (by decide +kernel), List.mem_of_getElem? (i := 382) (by decide +kernel)⟩
def lw_privs_1 : List (MethodName × Nat) := [(⟨"BlockCard", "renew", "(IIII)V"⟩, 17), (⟨"BlockCard", "goDark", "()V"⟩, 17), (⟨"BlockCard", "isPowered", "()Z"⟩, 17), (⟨"BlockCard", "start", "()V"⟩, 17), (⟨"BlockCard", "tearUnfinished", "()V"⟩, 17), (⟨"BlockCard$Memory", "blank", "(IIZ)V"⟩, 6), (⟨"BlockCard$Memory", "dropWritten", "(II)V"⟩, 6), (⟨"BlockCard", "hears", "(III)Z"⟩, 17), (⟨"BlockCard", "note", "(I)V"⟩, 17), (⟨"BlockCard", "isOpenTo", "(I)Z"⟩, 17), (⟨"BlockCard", "obey", "(II)I"⟩, 17), (⟨"BlockCard", "reset", "()I"⟩, 17), (⟨"BlockCard", "wake", "()I"⟩, 17), (⟨"BlockCard", "tellNumber", "()I"⟩, 17), (⟨"BlockCard", "takeAddress", "()I"⟩, 17), (⟨"BlockCard", "choose", "(I)I"⟩, 17)]
theorem lw_r1 : ∀ q ∈ lw_privs_1, lw_okq q := List.forall_mem_cons.mpr ⟨lw_p0, List.forall_mem_cons.mpr ⟨lw_p1, List.forall_mem_cons.mpr ⟨lw_p2, List.forall_mem_cons.mpr ⟨lw_p3, List.forall_mem_cons.mpr ⟨lw_p4, List.forall_mem_cons.mpr ⟨lw_p5, List.forall_mem_cons.mpr ⟨lw_p6, List.forall_mem_cons.mpr ⟨lw_p7, List.forall_mem_cons.mpr ⟨lw_p8, List.forall_mem_cons.mpr ⟨lw_p9, List.forall_mem_cons.mpr ⟨lw_p10, List.forall_mem_cons.mpr ⟨lw_p11, List.forall_mem_cons.mpr ⟨lw_p12, List.forall_mem_cons.mpr ⟨lw_p13, List.forall_mem_cons.mpr ⟨lw_p14, List.forall_mem_cons.mpr ⟨lw_p15, fun _ h => absurd h List.not_mem_nil⟩⟩⟩⟩⟩⟩⟩⟩⟩⟩⟩⟩⟩⟩⟩⟩
theorem lw_p16 : lw_okq (⟨"BlockCard", "tellStatus", "(I)I"⟩, 17) := ⟨⟨by decide +kernel, by decide +kernel⟩, List.mem_of_getElem? (i := 11) (by decide +kernel), List.mem_of_getElem? (i := 385) (by decide +kernel), List.mem_of_getElem? (i := 386) (by decide +kernel)⟩
theorem lw_p17 : lw_okq (⟨"BlockCard", "switchLines", "(I)I"⟩, 17) := ⟨⟨by decide +kernel, by decide +kernel⟩, List.mem_of_getElem? (i := 11) (by decide +kernel), List.mem_of_getElem? (i := 392) (by decide +kernel), List.mem_of_getElem? (i := 393) (by decide +kernel)⟩
theorem lw_p18 : lw_okq (⟨"BlockCard", "movePoint", "(I)I"⟩, 17) := ⟨⟨by decide +kernel, by decide +kernel⟩, List.mem_of_getElem? (i := 11) (by decide +kernel), List.mem_of_getElem? (i := 408) (by decide +kernel), List.mem_of_getElem? (i := 409) (by decide +kernel)⟩
theorem lw_p19 : lw_okq (⟨"BlockCard", "expect", "(I)I"⟩, 17) := ⟨⟨by decide +kernel, by decide +kernel⟩, List.mem_of_getElem? (i := 11) (by decide +kernel), List.mem_of_getElem? (i := 424) (by decide +kernel), List.mem_of_getElem? (i := 425) (by decide +kernel)⟩
theorem lw_p20 : lw_okq (⟨"BlockCard", "beginStream", "(IIZ)I"⟩, 17) := ⟨⟨by decide +kernel, by decide +kernel⟩, List.mem_of_getElem? (i := 11) (by decide +kernel), List.mem_of_getElem? (i := 432) (by decide +kernel), List.mem_of_getElem? (i := 433) (by decide +kernel)⟩
theorem lw_p21 : lw_okq (⟨"BlockCard", "refuse", "(I)I"⟩, 17) := ⟨⟨by decide +kernel, by decide +kernel⟩, List.mem_of_getElem? (i := 11) (by decide +kernel), List.mem_of_getElem? (i := 440) (by decide +kernel), List.mem_of_getElem? (i := 441) (by decide +kernel)⟩
theorem lw_p22 : lw_okq (⟨"BlockCard", "stop", "()I"⟩, 17) := ⟨⟨by decide +kernel, by decide +kernel⟩, List.mem_of_getElem? (i := 11) (by decide +kernel), List.mem_of_getElem? (i := 448) (by decide +kernel), List.mem_of_getElem? (i := 449) (by decide +kernel)⟩
theorem lw_p23 : lw_okq (⟨"BlockCard", "eraseFrom", "(I)I"⟩, 17) := ⟨⟨by decide +kernel, by decide +kernel⟩, List.mem_of_getElem? (i := 11) (by decide +kernel), List.mem_of_getElem? (i := 456) (by decide +kernel), List.mem_of_getElem? (i := 457) (by decide +kernel)⟩
theorem lw_p24 : lw_okq (⟨"BlockCard", "eraseTo", "(I)I"⟩, 17) := ⟨⟨by decide +kernel, by decide +kernel⟩, List.mem_of_getElem? (i := 11) (by decide +kernel), List.mem_of_getElem? (i := 464) (by decide +kernel), List.mem_of_getElem? (i := 465) (by decide +kernel)⟩
theorem lw_p25 : lw_okq (⟨"BlockCard", "erase", "()I"⟩, 17) := ⟨⟨by decide +kernel, by decide +kernel⟩, List.mem_of_getElem? (i := 11) (by decide +kernel), List.mem_of_getElem? (i := 472) (by decide +kernel), List.mem_of_getElem? (i := 473) (by decide +kernel)⟩
theorem lw_p26 : lw_okq (⟨"BlockCard", "beginErasing", "(II)I"⟩, 17) := ⟨⟨by decide +kernel, by decide +kernel⟩, List.mem_of_getElem? (i := 11) (by decide +kernel), List.mem_of_getElem? (i := 492) (by decide +kernel), List.mem_of_getElem? (i := 493) (by decide +kernel)⟩
theorem lw_p27 : lw_okq (⟨"BlockCard", "changeLock", "(I)I"⟩, 17) := ⟨⟨by decide +kernel, by decide +kernel⟩, List.mem_of_getElem? (i := 11) (by decide +kernel), List.mem_of_getElem? (i := 504) (by decide +kernel), List.mem_of_getElem? (i := 505) (by decide +kernel)⟩
theorem lw_p28 : lw_okq (⟨"BlockCard", "unlock", "()I"⟩, 17) := ⟨⟨by decide +kernel, by decide +kernel⟩, List.mem_of_getElem? (i := 11) (by decide +kernel), List.mem_of_getElem? (i := 508) (by decide +kernel), List.mem_of_getElem? (i := 509) (by decide +kernel)⟩
theorem lw_p29 : lw_okq (⟨"BlockCard", "textIsSecret", "()Z"⟩, 17) := ⟨⟨by decide +kernel, by decide +kernel⟩, List.mem_of_getElem? (i := 11) (by decide +kernel), List.mem_of_getElem? (i := 512) (by decide +kernel), List.mem_of_getElem? (i := 513) (by decide +kernel)⟩
theorem lw_p30 : lw_okq (⟨"BlockCard", "setSecret", "(Z)I"⟩, 17) := ⟨⟨by decide +kernel, by decide +kernel⟩, List.mem_of_getElem? (i := 11) (by decide +kernel), List.mem_of_getElem? (i := 524) (by decide +kernel), List.mem_of_getElem? (i := 525) (by decide +kernel)⟩
theorem lw_p31 : lw_okq (⟨"BlockCard", "clearSecret", "()I"⟩, 17) := ⟨⟨by decide +kernel, by decide +kernel⟩, List.mem_of_getElem? (i := 11) (by decide +kernel), List.mem_of_getElem? (i := 534) (by decide +kernel), List.mem_of_getElem? (i := 535) (by decide +kernel)⟩
def lw_privs_2 : List (MethodName × Nat) := [(⟨"BlockCard", "tellStatus", "(I)I"⟩, 17), (⟨"BlockCard", "switchLines", "(I)I"⟩, 17), (⟨"BlockCard", "movePoint", "(I)I"⟩, 17), (⟨"BlockCard", "expect", "(I)I"⟩, 17), (⟨"BlockCard", "beginStream", "(IIZ)I"⟩, 17), (⟨"BlockCard", "refuse", "(I)I"⟩, 17), (⟨"BlockCard", "stop", "()I"⟩, 17), (⟨"BlockCard", "eraseFrom", "(I)I"⟩, 17), (⟨"BlockCard", "eraseTo", "(I)I"⟩, 17), (⟨"BlockCard", "erase", "()I"⟩, 17), (⟨"BlockCard", "beginErasing", "(II)I"⟩, 17), (⟨"BlockCard", "changeLock", "(I)I"⟩, 17), (⟨"BlockCard", "unlock", "()I"⟩, 17), (⟨"BlockCard", "textIsSecret", "()Z"⟩, 17), (⟨"BlockCard", "setSecret", "(Z)I"⟩, 17), (⟨"BlockCard", "clearSecret", "()I"⟩, 17)]
theorem lw_r2 : ∀ q ∈ lw_privs_2, lw_okq q := List.forall_mem_cons.mpr ⟨lw_p16, List.forall_mem_cons.mpr ⟨lw_p17, List.forall_mem_cons.mpr ⟨lw_p18, List.forall_mem_cons.mpr ⟨lw_p19, List.forall_mem_cons.mpr ⟨lw_p20, List.forall_mem_cons.mpr ⟨lw_p21, List.forall_mem_cons.mpr ⟨lw_p22, List.forall_mem_cons.mpr ⟨lw_p23, List.forall_mem_cons.mpr ⟨lw_p24, List.forall_mem_cons.mpr ⟨lw_p25, List.forall_mem_cons.mpr ⟨lw_p26, List.forall_mem_cons.mpr ⟨lw_p27, List.forall_mem_cons.mpr ⟨lw_p28, List.forall_mem_cons.mpr ⟨lw_p29, List.forall_mem_cons.mpr ⟨lw_p30, List.forall_mem_cons.mpr ⟨lw_p31, fun _ h => absurd h List.not_mem_nil⟩⟩⟩⟩⟩⟩⟩⟩⟩⟩⟩⟩⟩⟩⟩⟩
theorem lw_p32 : lw_okq (⟨"BlockCard", "lock", "()I"⟩, 17) := ⟨⟨by decide +kernel, by decide +kernel⟩, List.mem_of_getElem? (i := 11) (by decide +kernel), List.mem_of_getElem? (i := 538) (by decide +kernel), List.mem_of_getElem? (i := 539) (by decide +kernel)⟩
theorem lw_p33 : lw_okq (⟨"BlockCard", "force", "()I"⟩, 17) := ⟨⟨by decide +kernel, by decide +kernel⟩, List.mem_of_getElem? (i := 11) (by decide +kernel), List.mem_of_getElem? (i := 542) (by decide +kernel), List.mem_of_getElem? (i := 543) (by decide +kernel)⟩
theorem lw_p34 : lw_okq (⟨"BlockCard", "work", "()V"⟩, 17) := ⟨⟨by decide +kernel, by decide +kernel⟩, List.mem_of_getElem? (i := 11) (by decide +kernel), List.mem_of_getElem? (i := 603) (by decide +kernel), List.mem_of_getElem? (i := 604) (by decide +kernel)⟩
theorem lw_p35 : lw_okq (⟨"BlockCard", "writeFurther", "()V"⟩, 17) := ⟨⟨by decide +kernel, by decide +kernel⟩, List.mem_of_getElem? (i := 11) (by decide +kernel), List.mem_of_getElem? (i := 607) (by decide +kernel), List.mem_of_getElem? (i := 608) (by decide +kernel)⟩
theorem lw_p36 : lw_okq (⟨"BlockCard$Memory", "addWrittenFirst", "(I)V"⟩, 6) := ⟨⟨by decide +kernel, by decide +kernel⟩, List.mem_of_getElem? (i := 19) (by decide +kernel), List.mem_of_getElem? (i := 623) (by decide +kernel), List.mem_of_getElem? (i := 624) (by decide +kernel)⟩
theorem lw_p37 : lw_okq (⟨"BlockCard", "eraseFurther", "()V"⟩, 17) := ⟨⟨by decide +kernel, by decide +kernel⟩, List.mem_of_getElem? (i := 11) (by decide +kernel), List.mem_of_getElem? (i := 632) (by decide +kernel), List.mem_of_getElem? (i := 633) (by decide +kernel)⟩
theorem lw_p38 : lw_okq (⟨"BlockCard", "isStreaming", "()Z"⟩, 17) := ⟨⟨by decide +kernel, by decide +kernel⟩, List.mem_of_getElem? (i := 11) (by decide +kernel), List.mem_of_getElem? (i := 693) (by decide +kernel), List.mem_of_getElem? (i := 694) (by decide +kernel)⟩
theorem lw_p39 : lw_okq (⟨"BlockCardModel", "begins", "()V"⟩, 38) := ⟨⟨by decide +kernel, by decide +kernel⟩, List.mem_of_getElem? (i := 710) (by decide +kernel), List.mem_of_getElem? (i := 729) (by decide +kernel), List.mem_of_getElem? (i := 730) (by decide +kernel)⟩
theorem lw_p40 : lw_okq (⟨"BlockCardModel", "cuts", "()V"⟩, 38) := ⟨⟨by decide +kernel, by decide +kernel⟩, List.mem_of_getElem? (i := 710) (by decide +kernel), List.mem_of_getElem? (i := 853) (by decide +kernel), List.mem_of_getElem? (i := 854) (by decide +kernel)⟩
theorem lw_p41 : lw_okq (⟨"BlockCardModel", "empties", "(II)V"⟩, 38) := ⟨⟨by decide +kernel, by decide +kernel⟩, List.mem_of_getElem? (i := 710) (by decide +kernel), List.mem_of_getElem? (i := 857) (by decide +kernel), List.mem_of_getElem? (i := 858) (by decide +kernel)⟩
theorem lw_p42 : lw_okq (⟨"BlockCardModel", "forgets", "(I)V"⟩, 38) := ⟨⟨by decide +kernel, by decide +kernel⟩, List.mem_of_getElem? (i := 710) (by decide +kernel), List.mem_of_getElem? (i := 861) (by decide +kernel), List.mem_of_getElem? (i := 862) (by decide +kernel)⟩
theorem lw_p43 : lw_okq (⟨"BlockCardModel", "groupEmpties", "(II)V"⟩, 38) := ⟨⟨by decide +kernel, by decide +kernel⟩, List.mem_of_getElem? (i := 710) (by decide +kernel), List.mem_of_getElem? (i := 865) (by decide +kernel), List.mem_of_getElem? (i := 866) (by decide +kernel)⟩
theorem lw_p44 : lw_okq (⟨"BlockCardModel", "isOne", "(I)Z"⟩, 38) := ⟨⟨by decide +kernel, by decide +kernel⟩, List.mem_of_getElem? (i := 710) (by decide +kernel), List.mem_of_getElem? (i := 903) (by decide +kernel), List.mem_of_getElem? (i := 904) (by decide +kernel)⟩
theorem lw_p45 : lw_okq (⟨"BlockCardModel", "first", "(II)I"⟩, 38) := ⟨⟨by decide +kernel, by decide +kernel⟩, List.mem_of_getElem? (i := 710) (by decide +kernel), List.mem_of_getElem? (i := 912) (by decide +kernel), List.mem_of_getElem? (i := 913) (by decide +kernel)⟩
theorem lw_p46 : lw_okq (⟨"BlockCardModel", "switches", "(II)V"⟩, 38) := ⟨⟨by decide +kernel, by decide +kernel⟩, List.mem_of_getElem? (i := 710) (by decide +kernel), List.mem_of_getElem? (i := 916) (by decide +kernel), List.mem_of_getElem? (i := 917) (by decide +kernel)⟩
theorem lw_p47 : lw_okq (⟨"BlockCardModel", "chooses", "(I)I"⟩, 38) := ⟨⟨by decide +kernel, by decide +kernel⟩, List.mem_of_getElem? (i := 710) (by decide +kernel), List.mem_of_getElem? (i := 920) (by decide +kernel), List.mem_of_getElem? (i := 921) (by decide +kernel)⟩
def lw_privs_3 : List (MethodName × Nat) := [(⟨"BlockCard", "lock", "()I"⟩, 17), (⟨"BlockCard", "force", "()I"⟩, 17), (⟨"BlockCard", "work", "()V"⟩, 17), (⟨"BlockCard", "writeFurther", "()V"⟩, 17), (⟨"BlockCard$Memory", "addWrittenFirst", "(I)V"⟩, 6), (⟨"BlockCard", "eraseFurther", "()V"⟩, 17), (⟨"BlockCard", "isStreaming", "()Z"⟩, 17), (⟨"BlockCardModel", "begins", "()V"⟩, 38), (⟨"BlockCardModel", "cuts", "()V"⟩, 38), (⟨"BlockCardModel", "empties", "(II)V"⟩, 38), (⟨"BlockCardModel", "forgets", "(I)V"⟩, 38), (⟨"BlockCardModel", "groupEmpties", "(II)V"⟩, 38), (⟨"BlockCardModel", "isOne", "(I)Z"⟩, 38), (⟨"BlockCardModel", "first", "(II)I"⟩, 38), (⟨"BlockCardModel", "switches", "(II)V"⟩, 38), (⟨"BlockCardModel", "chooses", "(I)I"⟩, 38)]
theorem lw_r3 : ∀ q ∈ lw_privs_3, lw_okq q := List.forall_mem_cons.mpr ⟨lw_p32, List.forall_mem_cons.mpr ⟨lw_p33, List.forall_mem_cons.mpr ⟨lw_p34, List.forall_mem_cons.mpr ⟨lw_p35, List.forall_mem_cons.mpr ⟨lw_p36, List.forall_mem_cons.mpr ⟨lw_p37, List.forall_mem_cons.mpr ⟨lw_p38, List.forall_mem_cons.mpr ⟨lw_p39, List.forall_mem_cons.mpr ⟨lw_p40, List.forall_mem_cons.mpr ⟨lw_p41, List.forall_mem_cons.mpr ⟨lw_p42, List.forall_mem_cons.mpr ⟨lw_p43, List.forall_mem_cons.mpr ⟨lw_p44, List.forall_mem_cons.mpr ⟨lw_p45, List.forall_mem_cons.mpr ⟨lw_p46, List.forall_mem_cons.mpr ⟨lw_p47, fun _ h => absurd h List.not_mem_nil⟩⟩⟩⟩⟩⟩⟩⟩⟩⟩⟩⟩⟩⟩⟩⟩
theorem lw_p48 : lw_okq (⟨"BlockCardModel", "stops", "()I"⟩, 38) := ⟨⟨by decide +kernel, by decide +kernel⟩, List.mem_of_getElem? (i := 710) (by decide +kernel), List.mem_of_getElem? (i := 924) (by decide +kernel), List.mem_of_getElem? (i := 925) (by decide +kernel)⟩
theorem lw_p49 : lw_okq (⟨"BlockCardModel", "status", "()I"⟩, 38) := ⟨⟨by decide +kernel, by decide +kernel⟩, List.mem_of_getElem? (i := 710) (by decide +kernel), List.mem_of_getElem? (i := 928) (by decide +kernel), List.mem_of_getElem? (i := 929) (by decide +kernel)⟩
theorem lw_p50 : lw_okq (⟨"BlockCardModel", "streams", "(II)I"⟩, 38) := ⟨⟨by decide +kernel, by decide +kernel⟩, List.mem_of_getElem? (i := 710) (by decide +kernel), List.mem_of_getElem? (i := 932) (by decide +kernel), List.mem_of_getElem? (i := 933) (by decide +kernel)⟩
theorem lw_p51 : lw_okq (⟨"BlockCardModel", "isInWindow", "()Z"⟩, 38) := ⟨⟨by decide +kernel, by decide +kernel⟩, List.mem_of_getElem? (i := 710) (by decide +kernel), List.mem_of_getElem? (i := 936) (by decide +kernel), List.mem_of_getElem? (i := 937) (by decide +kernel)⟩
theorem lw_p52 : lw_okq (⟨"BlockCardModel", "streamsFrom", "(II)I"⟩, 38) := ⟨⟨by decide +kernel, by decide +kernel⟩, List.mem_of_getElem? (i := 710) (by decide +kernel), List.mem_of_getElem? (i := 940) (by decide +kernel), List.mem_of_getElem? (i := 941) (by decide +kernel)⟩
theorem lw_p53 : lw_okq (⟨"BlockCardModel", "noting", "(I)I"⟩, 38) := ⟨⟨by decide +kernel, by decide +kernel⟩, List.mem_of_getElem? (i := 710) (by decide +kernel), List.mem_of_getElem? (i := 944) (by decide +kernel), List.mem_of_getElem? (i := 945) (by decide +kernel)⟩
theorem lw_p54 : lw_okq (⟨"BlockCardModel", "erases", "(II)I"⟩, 38) := ⟨⟨by decide +kernel, by decide +kernel⟩, List.mem_of_getElem? (i := 710) (by decide +kernel), List.mem_of_getElem? (i := 948) (by decide +kernel), List.mem_of_getElem? (i := 949) (by decide +kernel)⟩
theorem lw_p55 : lw_okq (⟨"BlockCardModel", "endsAt", "(I)I"⟩, 38) := ⟨⟨by decide +kernel, by decide +kernel⟩, List.mem_of_getElem? (i := 710) (by decide +kernel), List.mem_of_getElem? (i := 952) (by decide +kernel), List.mem_of_getElem? (i := 953) (by decide +kernel)⟩
theorem lw_p56 : lw_okq (⟨"BlockCardModel", "erasesGroups", "(II)I"⟩, 38) := ⟨⟨by decide +kernel, by decide +kernel⟩, List.mem_of_getElem? (i := 710) (by decide +kernel), List.mem_of_getElem? (i := 956) (by decide +kernel), List.mem_of_getElem? (i := 957) (by decide +kernel)⟩
theorem lw_p57 : lw_okq (⟨"BlockCardModel", "locks", "(I)I"⟩, 38) := ⟨⟨by decide +kernel, by decide +kernel⟩, List.mem_of_getElem? (i := 710) (by decide +kernel), List.mem_of_getElem? (i := 960) (by decide +kernel), List.mem_of_getElem? (i := 961) (by decide +kernel)⟩
theorem lw_p58 : lw_okq (⟨"BlockCardModel", "isWord", "(II)Z"⟩, 38) := ⟨⟨by decide +kernel, by decide +kernel⟩, List.mem_of_getElem? (i := 710) (by decide +kernel), List.mem_of_getElem? (i := 964) (by decide +kernel), List.mem_of_getElem? (i := 965) (by decide +kernel)⟩
theorem lw_p59 : lw_okq (⟨"BlockCardModel", "sets", "()Z"⟩, 38) := ⟨⟨by decide +kernel, by decide +kernel⟩, List.mem_of_getElem? (i := 710) (by decide +kernel), List.mem_of_getElem? (i := 968) (by decide +kernel), List.mem_of_getElem? (i := 969) (by decide +kernel)⟩
theorem lw_p60 : lw_okq (⟨"BlockCardModel", "groups", "()I"⟩, 38) := ⟨⟨by decide +kernel, by decide +kernel⟩, List.mem_of_getElem? (i := 710) (by decide +kernel), List.mem_of_getElem? (i := 972) (by decide +kernel), List.mem_of_getElem? (i := 973) (by decide +kernel)⟩
theorem lw_p61 : lw_okq (⟨"BlockCardModel", "oneTick", "()V"⟩, 38) := ⟨⟨by decide +kernel, by decide +kernel⟩, List.mem_of_getElem? (i := 710) (by decide +kernel), List.mem_of_getElem? (i := 995) (by decide +kernel), List.mem_of_getElem? (i := 996) (by decide +kernel)⟩
theorem lw_p62 : lw_okq (⟨"BlockCardModel", "writes", "()V"⟩, 38) := ⟨⟨by decide +kernel, by decide +kernel⟩, List.mem_of_getElem? (i := 710) (by decide +kernel), List.mem_of_getElem? (i := 999) (by decide +kernel), List.mem_of_getElem? (i := 1000) (by decide +kernel)⟩
theorem lw_p63 : lw_okq (⟨"BlockCardModel", "countPower", "(I)I"⟩, 38) := ⟨⟨by decide +kernel, by decide +kernel⟩, List.mem_of_getElem? (i := 710) (by decide +kernel), List.mem_of_getElem? (i := 1029) (by decide +kernel), List.mem_of_getElem? (i := 1030) (by decide +kernel)⟩
def lw_privs_4 : List (MethodName × Nat) := [(⟨"BlockCardModel", "stops", "()I"⟩, 38), (⟨"BlockCardModel", "status", "()I"⟩, 38), (⟨"BlockCardModel", "streams", "(II)I"⟩, 38), (⟨"BlockCardModel", "isInWindow", "()Z"⟩, 38), (⟨"BlockCardModel", "streamsFrom", "(II)I"⟩, 38), (⟨"BlockCardModel", "noting", "(I)I"⟩, 38), (⟨"BlockCardModel", "erases", "(II)I"⟩, 38), (⟨"BlockCardModel", "endsAt", "(I)I"⟩, 38), (⟨"BlockCardModel", "erasesGroups", "(II)I"⟩, 38), (⟨"BlockCardModel", "locks", "(I)I"⟩, 38), (⟨"BlockCardModel", "isWord", "(II)Z"⟩, 38), (⟨"BlockCardModel", "sets", "()Z"⟩, 38), (⟨"BlockCardModel", "groups", "()I"⟩, 38), (⟨"BlockCardModel", "oneTick", "()V"⟩, 38), (⟨"BlockCardModel", "writes", "()V"⟩, 38), (⟨"BlockCardModel", "countPower", "(I)I"⟩, 38)]
theorem lw_r4 : ∀ q ∈ lw_privs_4, lw_okq q := List.forall_mem_cons.mpr ⟨lw_p48, List.forall_mem_cons.mpr ⟨lw_p49, List.forall_mem_cons.mpr ⟨lw_p50, List.forall_mem_cons.mpr ⟨lw_p51, List.forall_mem_cons.mpr ⟨lw_p52, List.forall_mem_cons.mpr ⟨lw_p53, List.forall_mem_cons.mpr ⟨lw_p54, List.forall_mem_cons.mpr ⟨lw_p55, List.forall_mem_cons.mpr ⟨lw_p56, List.forall_mem_cons.mpr ⟨lw_p57, List.forall_mem_cons.mpr ⟨lw_p58, List.forall_mem_cons.mpr ⟨lw_p59, List.forall_mem_cons.mpr ⟨lw_p60, List.forall_mem_cons.mpr ⟨lw_p61, List.forall_mem_cons.mpr ⟨lw_p62, List.forall_mem_cons.mpr ⟨lw_p63, fun _ h => absurd h List.not_mem_nil⟩⟩⟩⟩⟩⟩⟩⟩⟩⟩⟩⟩⟩⟩⟩⟩
theorem lw_p64 : lw_okq (⟨"BlockCardModel", "blocksThat", "(Z)I"⟩, 38) := ⟨⟨by decide +kernel, by decide +kernel⟩, List.mem_of_getElem? (i := 710) (by decide +kernel), List.mem_of_getElem? (i := 1033) (by decide +kernel), List.mem_of_getElem? (i := 1034) (by decide +kernel)⟩
def lw_privs_5 : List (MethodName × Nat) := [(⟨"BlockCardModel", "blocksThat", "(Z)I"⟩, 38)]
theorem lw_r5 : ∀ q ∈ lw_privs_5, lw_okq q := List.forall_mem_cons.mpr ⟨lw_p64, fun _ h => absurd h List.not_mem_nil⟩
def lw_privs : List (MethodName × Nat) := lw_privs_1 ++ (lw_privs_2 ++ (lw_privs_3 ++ (lw_privs_4 ++ (lw_privs_5))))
def lw_tbl : List Cond := k2_sels lw_privs ++ tables_1
theorem lw_privs_ok : ∀ q ∈ lw_privs, lw_okq q := by
  show ∀ q ∈ lw_privs_1 ++ (lw_privs_2 ++ (lw_privs_3 ++ (lw_privs_4 ++ (lw_privs_5)))), lw_okq q
  exact List.forall_mem_append.mpr ⟨lw_r1, List.forall_mem_append.mpr ⟨lw_r2, List.forall_mem_append.mpr ⟨lw_r3, List.forall_mem_append.mpr ⟨lw_r4, lw_r5⟩⟩⟩⟩
end
section
/-! ===== BEGIN words of one list among another's, by their places ===== -/
theorem goodIn_r {big : List Cond} (ws : List Cond) (ps : List Nat) (hp : ws = ps.filterMap (fun i => big[i]?)) (h : ws.all goodWord = true) : GoodIn big ws := by
  intro w hw
  have h1 := List.all_eq_true.mp h w hw
  rw [hp] at hw
  obtain ⟨i, -, hi⟩ := List.mem_filterMap.mp hw
  have hm : w ∈ big := by first | exact List.mem_of_getElem? hi | exact List.getElem?_mem hi
  exact ⟨hm, good_of_word h1⟩
theorem goodIn_app {big a b : List Cond} (ha : GoodIn big a) (hb : GoodIn big b) : GoodIn big (a ++ b) := fun w h => (List.mem_append.mp h).elim (ha w) (hb w)
theorem goodIn_ca {big a b : List Cond} {c : Cond} (ha : GoodIn big (c :: a)) (hb : GoodIn big b) : GoodIn big (c :: (a ++ b)) := fun w h => (List.mem_cons.mp h).elim (fun e => ha w (List.mem_cons.mpr (Or.inl e))) (fun h => (List.mem_append.mp h).elim (fun h => ha w (List.mem_cons.mpr (Or.inr h))) (hb w))
theorem goodIn_sub {big ws : List Cond} (hm : ∀ w ∈ ws, w ∈ big) (h : ws.all goodWord = true) : GoodIn big ws := fun w hw => ⟨hm w hw, good_of_word (List.all_eq_true.mp h w hw)⟩
/-! ===== END ===== -/

/-! ===== BEGIN printed: names, fields, word lists, decode rows ===== -/
def RX0 : String := "BlockCard$Eraser"
def TX0 : u_T := fun k => match k with
  | 0 => ("BlockCard$Eraser", "begun", "I", false)
  | 1 => ("BlockCard$Eraser", "from", "I", false)
  | 2 => ("BlockCard$Eraser", "to", "I", false)
  | 3 => ("BlockCard$Eraser", "lowest", "I", false)
  | 4 => ("BlockCard$Eraser", "left", "I", false)
  | _ => ("BlockCard$Eraser", "ticksOfLowest", "I", false)
def tyX0 : Nat → FieldType := fun k => match k with
  | 0 => .int
  | 1 => .int
  | 2 => .int
  | 3 => .int
  | 4 => .int
  | _ => .int
abbrev wsX00 : List Cond := u_ws RX0 TX0 6
theorem nmX0 : ∀ a, a < 6 → ∀ b, b < 6 → a ≠ b → (TX0 a).2.1 ≠ (TX0 b).2.1 := by decide +kernel
theorem tyX0_ok : ∀ k, k < 6 → parseFieldDescriptor (TX0 k).2.2.1 = some (tyX0 k) := by decide +kernel
abbrev cX0_init : ByteArray := prog_2_method_1_code
def yX0_init : MethodName := ⟨RX0, "<init>", "()V"⟩
abbrev cX0_clear : ByteArray := prog_2_method_2_code
def yX0_clear : MethodName := ⟨RX0, "clear", "()V"⟩
abbrev cX0_forget : ByteArray := prog_2_method_3_code
def yX0_forget : MethodName := ⟨RX0, "forget", "()V"⟩
abbrev cX0_isBrokenOffBy : ByteArray := prog_2_method_4_code
def yX0_isBrokenOffBy : MethodName := ⟨RX0, "isBrokenOffBy", "(I)Z"⟩
abbrev cX0_beginFrom : ByteArray := prog_2_method_5_code
def yX0_beginFrom : MethodName := ⟨RX0, "beginFrom", "(I)V"⟩
abbrev cX0_continueTo : ByteArray := prog_2_method_6_code
def yX0_continueTo : MethodName := ⟨RX0, "continueTo", "(I)Z"⟩
abbrev cX0_isReady : ByteArray := prog_2_method_7_code
def yX0_isReady : MethodName := ⟨RX0, "isReady", "()Z"⟩
abbrev cX0_from : ByteArray := prog_2_method_8_code
def yX0_from : MethodName := ⟨RX0, "from", "()I"⟩
abbrev cX0_to : ByteArray := prog_2_method_9_code
def yX0_to : MethodName := ⟨RX0, "to", "()I"⟩
abbrev cX0_begin : ByteArray := prog_2_method_10_code
def yX0_begin : MethodName := ⟨RX0, "begin", "(II)V"⟩
abbrev cX0_groupsLeft : ByteArray := prog_2_method_11_code
def yX0_groupsLeft : MethodName := ⟨RX0, "groupsLeft", "()I"⟩
abbrev cX0_group : ByteArray := prog_2_method_12_code
def yX0_group : MethodName := ⟨RX0, "group", "()I"⟩
abbrev cX0_groupHasBegun : ByteArray := prog_2_method_13_code
def yX0_groupHasBegun : MethodName := ⟨RX0, "groupHasBegun", "()Z"⟩
abbrev cX0_tickGroup : ByteArray := prog_2_method_14_code
def yX0_tickGroup : MethodName := ⟨RX0, "tickGroup", "()Z"⟩
def RX1 : String := "BlockCard$Letters"
def TX1 : u_T := fun k => match k with
  | 0 => ("BlockCard$Letters", "signs", "[I", true)
  | _ => ("BlockCard$Letters", "length", "I", false)
def tyX1 : Nat → FieldType := fun k => match k with
  | 0 => .array .int
  | _ => .int
abbrev wsX10 : List Cond := u_ws RX1 TX1 2
theorem nmX1 : ∀ a, a < 2 → ∀ b, b < 2 → a ≠ b → (TX1 a).2.1 ≠ (TX1 b).2.1 := by decide +kernel
theorem tyX1_ok : ∀ k, k < 2 → parseFieldDescriptor (TX1 k).2.2.1 = some (tyX1 k) := by decide +kernel
abbrev cX1_init : ByteArray := prog_3_method_1_code
def yX1_init : MethodName := ⟨RX1, "<init>", "(I)V"⟩
abbrev cX1_length : ByteArray := prog_3_method_2_code
def yX1_length : MethodName := ⟨RX1, "length", "()I"⟩
abbrev cX1_empty : ByteArray := prog_3_method_3_code
def yX1_empty : MethodName := ⟨RX1, "empty", "()V"⟩
abbrev cX1_append : ByteArray := prog_3_method_4_code
def yX1_append : MethodName := ⟨RX1, "append", "(I)Z"⟩
abbrev cX1_at : ByteArray := prog_3_method_5_code
def yX1_at : MethodName := ⟨RX1, "at", "(I)I"⟩
abbrev cX1_startsWith : ByteArray := prog_3_method_6_code
def yX1_startsWith : MethodName := ⟨RX1, "startsWith", "(LBlockCard$Letters;)Z"⟩
abbrev cX1_becomeTail : ByteArray := prog_3_method_7_code
def yX1_becomeTail : MethodName := ⟨RX1, "becomeTail", "(LBlockCard$Letters;I)V"⟩
def RX2 : String := "BlockCard$Link"
def TX2 : u_T := fun k => match k with
  | 0 => ("BlockCard$Link", "lines", "I", false)
  | 1 => ("BlockCard$Link", "speed", "I", false)
  | _ => ("BlockCard$Link", "point", "I", false)
def tyX2 : Nat → FieldType := fun k => match k with
  | 0 => .int
  | 1 => .int
  | _ => .int
abbrev wsX20 : List Cond := u_ws RX2 TX2 3
theorem nmX2 : ∀ a, a < 3 → ∀ b, b < 3 → a ≠ b → (TX2 a).2.1 ≠ (TX2 b).2.1 := by decide +kernel
theorem tyX2_ok : ∀ k, k < 3 → parseFieldDescriptor (TX2 k).2.2.1 = some (tyX2 k) := by decide +kernel
abbrev cX2_init : ByteArray := prog_4_method_1_code
def yX2_init : MethodName := ⟨RX2, "<init>", "()V"⟩
abbrev cX2_clear : ByteArray := prog_4_method_2_code
def yX2_clear : MethodName := ⟨RX2, "clear", "()V"⟩
abbrev cX2_lines : ByteArray := prog_4_method_3_code
def yX2_lines : MethodName := ⟨RX2, "lines", "()I"⟩
abbrev cX2_speed : ByteArray := prog_4_method_4_code
def yX2_speed : MethodName := ⟨RX2, "speed", "()I"⟩
abbrev cX2_point : ByteArray := prog_4_method_5_code
def yX2_point : MethodName := ⟨RX2, "point", "()I"⟩
abbrev cX2_change : ByteArray := prog_4_method_6_code
def yX2_change : MethodName := ⟨RX2, "change", "(II)Z"⟩
abbrev cX2_look : ByteArray := prog_4_method_7_code
def yX2_look : MethodName := ⟨RX2, "look", "(I)V"⟩
abbrev cX2_ticksOfBlock : ByteArray := prog_4_method_8_code
def yX2_ticksOfBlock : MethodName := ⟨RX2, "ticksOfBlock", "()I"⟩
abbrev cX2_isInWindow : ByteArray := prog_4_method_9_code
def yX2_isInWindow : MethodName := ⟨RX2, "isInWindow", "(I)Z"⟩
def RX3 : String := "BlockCard$Memory"
def TX3 : u_T := fun k => match k with
  | 0 => ("BlockCard$Memory", "contents", "[I", true)
  | 1 => ("BlockCard$Memory", "torn", "[Z", true)
  | 2 => ("BlockCard$Memory", "written", "[I", true)
  | 3 => ("BlockCard$Memory", "writtenCount", "I", false)
  | 4 => ("BlockCard$Memory", "size", "I", false)
  | _ => ("BlockCard$Memory", "groupSize", "I", false)
def tyX3 : Nat → FieldType := fun k => match k with
  | 0 => .array .int
  | 1 => .array .boolean
  | 2 => .array .int
  | 3 => .int
  | 4 => .int
  | _ => .int
abbrev wsX30 : List Cond := u_ws RX3 TX3 6
theorem nmX3 : ∀ a, a < 6 → ∀ b, b < 6 → a ≠ b → (TX3 a).2.1 ≠ (TX3 b).2.1 := by decide +kernel
theorem tyX3_ok : ∀ k, k < 6 → parseFieldDescriptor (TX3 k).2.2.1 = some (tyX3 k) := by decide +kernel
abbrev cX3_init : ByteArray := prog_5_method_1_code
def yX3_init : MethodName := ⟨RX3, "<init>", "()V"⟩
abbrev cX3_clear : ByteArray := prog_5_method_2_code
def yX3_clear : MethodName := ⟨RX3, "clear", "(II)V"⟩
abbrev cX3_size : ByteArray := prog_5_method_3_code
def yX3_size : MethodName := ⟨RX3, "size", "()I"⟩
abbrev cX3_groupSize : ByteArray := prog_5_method_4_code
def yX3_groupSize : MethodName := ⟨RX3, "groupSize", "()I"⟩
abbrev cX3_has : ByteArray := prog_5_method_5_code
def yX3_has : MethodName := ⟨RX3, "has", "(I)Z"⟩
abbrev cX3_groupOf : ByteArray := prog_5_method_6_code
def yX3_groupOf : MethodName := ⟨RX3, "groupOf", "(I)I"⟩
abbrev cX3_contentOf : ByteArray := prog_5_method_7_code
def yX3_contentOf : MethodName := ⟨RX3, "contentOf", "(I)I"⟩
abbrev cX3_isTorn : ByteArray := prog_5_method_8_code
def yX3_isTorn : MethodName := ⟨RX3, "isTorn", "(I)Z"⟩
abbrev cX3_writtenAt : ByteArray := prog_5_method_9_code
def yX3_writtenAt : MethodName := ⟨RX3, "writtenAt", "(I)I"⟩
abbrev cX3_put : ByteArray := prog_5_method_10_code
def yX3_put : MethodName := ⟨RX3, "put", "(II)V"⟩
abbrev cX3_tear : ByteArray := prog_5_method_11_code
def yX3_tear : MethodName := ⟨RX3, "tear", "(I)V"⟩
abbrev cX3_tearGroup : ByteArray := prog_5_method_12_code
def yX3_tearGroup : MethodName := ⟨RX3, "tearGroup", "(I)V"⟩
abbrev cX3_eraseGroup : ByteArray := prog_5_method_13_code
def yX3_eraseGroup : MethodName := ⟨RX3, "eraseGroup", "(I)V"⟩
abbrev cX3_tornBlocks : ByteArray := prog_5_method_14_code
def yX3_tornBlocks : MethodName := ⟨RX3, "tornBlocks", "()I"⟩
abbrev cX3_filledBlocks : ByteArray := prog_5_method_15_code
def yX3_filledBlocks : MethodName := ⟨RX3, "filledBlocks", "()I"⟩
abbrev cX3_blank : ByteArray := prog_5_method_16_code
def yX3_blank : MethodName := ⟨RX3, "blank", "(IIZ)V"⟩
abbrev cX3_dropWritten : ByteArray := prog_5_method_17_code
def yX3_dropWritten : MethodName := ⟨RX3, "dropWritten", "(II)V"⟩
abbrev cX3_addWrittenFirst : ByteArray := prog_5_method_18_code
def yX3_addWrittenFirst : MethodName := ⟨RX3, "addWrittenFirst", "(I)V"⟩
def RX4 : String := "BlockCard$Queue"
def TX4 : u_T := fun k => match k with
  | 0 => ("BlockCard$Queue", "places", "[I", true)
  | 1 => ("BlockCard$Queue", "contents", "[I", true)
  | 2 => ("BlockCard$Queue", "size", "I", false)
  | _ => ("BlockCard$Queue", "ticksOfFirst", "I", false)
def tyX4 : Nat → FieldType := fun k => match k with
  | 0 => .array .int
  | 1 => .array .int
  | 2 => .int
  | _ => .int
abbrev wsX40 : List Cond := u_ws RX4 TX4 4
theorem nmX4 : ∀ a, a < 4 → ∀ b, b < 4 → a ≠ b → (TX4 a).2.1 ≠ (TX4 b).2.1 := by decide +kernel
theorem tyX4_ok : ∀ k, k < 4 → parseFieldDescriptor (TX4 k).2.2.1 = some (tyX4 k) := by decide +kernel
abbrev cX4_init : ByteArray := prog_6_method_1_code
def yX4_init : MethodName := ⟨RX4, "<init>", "()V"⟩
abbrev cX4_clear : ByteArray := prog_6_method_2_code
def yX4_clear : MethodName := ⟨RX4, "clear", "()V"⟩
abbrev cX4_size : ByteArray := prog_6_method_3_code
def yX4_size : MethodName := ⟨RX4, "size", "()I"⟩
abbrev cX4_isFull : ByteArray := prog_6_method_4_code
def yX4_isFull : MethodName := ⟨RX4, "isFull", "()Z"⟩
abbrev cX4_append : ByteArray := prog_6_method_5_code
def yX4_append : MethodName := ⟨RX4, "append", "(II)V"⟩
abbrev cX4_tellOf : ByteArray := prog_6_method_6_code
def yX4_tellOf : MethodName := ⟨RX4, "tellOf", "(II)I"⟩
abbrev cX4_firstHasBegun : ByteArray := prog_6_method_7_code
def yX4_firstHasBegun : MethodName := ⟨RX4, "firstHasBegun", "()Z"⟩
abbrev cX4_tickFirst : ByteArray := prog_6_method_8_code
def yX4_tickFirst : MethodName := ⟨RX4, "tickFirst", "()V"⟩
abbrev cX4_dropFirst : ByteArray := prog_6_method_9_code
def yX4_dropFirst : MethodName := ⟨RX4, "dropFirst", "()V"⟩
def RX5 : String := "BlockCard$Stream"
def TX5 : u_T := fun k => match k with
  | 0 => ("BlockCard$Stream", "expected", "I", false)
  | 1 => ("BlockCard$Stream", "next", "I", false)
  | 2 => ("BlockCard$Stream", "left", "I", false)
  | 3 => ("BlockCard$Stream", "counted", "Z", false)
  | _ => ("BlockCard$Stream", "wrong", "Z", false)
def tyX5 : Nat → FieldType := fun k => match k with
  | 0 => .int
  | 1 => .int
  | 2 => .int
  | 3 => .boolean
  | _ => .boolean
abbrev wsX50 : List Cond := u_ws RX5 TX5 5
theorem nmX5 : ∀ a, a < 5 → ∀ b, b < 5 → a ≠ b → (TX5 a).2.1 ≠ (TX5 b).2.1 := by decide +kernel
theorem tyX5_ok : ∀ k, k < 5 → parseFieldDescriptor (TX5 k).2.2.1 = some (tyX5 k) := by decide +kernel
abbrev cX5_init : ByteArray := prog_7_method_1_code
def yX5_init : MethodName := ⟨RX5, "<init>", "()V"⟩
abbrev cX5_clear : ByteArray := prog_7_method_2_code
def yX5_clear : MethodName := ⟨RX5, "clear", "()V"⟩
abbrev cX5_expect : ByteArray := prog_7_method_3_code
def yX5_expect : MethodName := ⟨RX5, "expect", "(I)V"⟩
abbrev cX5_begin : ByteArray := prog_7_method_4_code
def yX5_begin : MethodName := ⟨RX5, "begin", "(IZ)V"⟩
abbrev cX5_next : ByteArray := prog_7_method_5_code
def yX5_next : MethodName := ⟨RX5, "next", "()I"⟩
abbrev cX5_advance : ByteArray := prog_7_method_6_code
def yX5_advance : MethodName := ⟨RX5, "advance", "()V"⟩
abbrev cX5_isCounted : ByteArray := prog_7_method_7_code
def yX5_isCounted : MethodName := ⟨RX5, "isCounted", "()Z"⟩
abbrev cX5_left : ByteArray := prog_7_method_8_code
def yX5_left : MethodName := ⟨RX5, "left", "()I"⟩
abbrev cX5_isComplete : ByteArray := prog_7_method_9_code
def yX5_isComplete : MethodName := ⟨RX5, "isComplete", "()Z"⟩
abbrev cX5_isWrong : ByteArray := prog_7_method_10_code
def yX5_isWrong : MethodName := ⟨RX5, "isWrong", "()Z"⟩
abbrev cX5_spoil : ByteArray := prog_7_method_11_code
def yX5_spoil : MethodName := ⟨RX5, "spoil", "()V"⟩
def RX6 : String := "BlockCard"
def TX6 : u_T := fun k => match k with
  | 0 => ("BlockCard", "memory", "LBlockCard$Memory;", true)
  | 1 => ("BlockCard", "text", "LBlockCard$Letters;", true)
  | 2 => ("BlockCard", "secret", "LBlockCard$Letters;", true)
  | 3 => ("BlockCard", "queue", "LBlockCard$Queue;", true)
  | 4 => ("BlockCard", "eraser", "LBlockCard$Eraser;", true)
  | 5 => ("BlockCard", "stream", "LBlockCard$Stream;", true)
  | 6 => ("BlockCard", "link", "LBlockCard$Link;", true)
  | 7 => ("BlockCard", "idleness", "I", false)
  | 8 => ("BlockCard", "number", "I", false)
  | 9 => ("BlockCard", "well", "I", false)
  | 10 => ("BlockCard", "ticks", "I", false)
  | 11 => ("BlockCard", "heat", "I", false)
  | 12 => ("BlockCard", "state", "I", false)
  | 13 => ("BlockCard", "address", "I", false)
  | 14 => ("BlockCard", "notes", "I", false)
  | 15 => ("BlockCard", "woken", "I", false)
  | _ => ("BlockCard", "locked", "Z", false)
def tyX6 : Nat → FieldType := fun k => match k with
  | 0 => .object "BlockCard$Memory"
  | 1 => .object "BlockCard$Letters"
  | 2 => .object "BlockCard$Letters"
  | 3 => .object "BlockCard$Queue"
  | 4 => .object "BlockCard$Eraser"
  | 5 => .object "BlockCard$Stream"
  | 6 => .object "BlockCard$Link"
  | 7 => .int
  | 8 => .int
  | 9 => .int
  | 10 => .int
  | 11 => .int
  | 12 => .int
  | 13 => .int
  | 14 => .int
  | 15 => .int
  | _ => .boolean
abbrev wsX60 : List Cond := u_ws RX6 TX6 17
theorem nmX6 : ∀ a, a < 17 → ∀ b, b < 17 → a ≠ b → (TX6 a).2.1 ≠ (TX6 b).2.1 := by decide +kernel
theorem tyX6_ok : ∀ k, k < 17 → parseFieldDescriptor (TX6 k).2.2.1 = some (tyX6 k) := by decide +kernel
abbrev cX6_init : ByteArray := prog_1_method_1_code
def yX6_init : MethodName := ⟨RX6, "<init>", "()V"⟩
abbrev cX6_make : ByteArray := prog_1_method_2_code
def yX6_make : MethodName := ⟨RX6, "make", "(IIII)I"⟩
abbrev cX6_power : ByteArray := prog_1_method_3_code
def yX6_power : MethodName := ⟨RX6, "power", "(I)I"⟩
abbrev cX6_warm : ByteArray := prog_1_method_4_code
def yX6_warm : MethodName := ⟨RX6, "warm", "(I)I"⟩
abbrev cX6_write : ByteArray := prog_1_method_5_code
def yX6_write : MethodName := ⟨RX6, "write", "(I)I"⟩
abbrev cX6_wipe : ByteArray := prog_1_method_6_code
def yX6_wipe : MethodName := ⟨RX6, "wipe", "()I"⟩
abbrev cX6_check : ByteArray := prog_1_method_7_code
def yX6_check : MethodName := ⟨RX6, "check", "(II)I"⟩
abbrev cX6_checkOf : ByteArray := prog_1_method_8_code
def yX6_checkOf : MethodName := ⟨RX6, "checkOf", "(I)I"⟩
abbrev cX6_send : ByteArray := prog_1_method_9_code
def yX6_send : MethodName := ⟨RX6, "send", "(III)I"⟩
abbrev cX6_tell : ByteArray := prog_1_method_10_code
def yX6_tell : MethodName := ⟨RX6, "tell", "(II)I"⟩
abbrev cX6_give : ByteArray := prog_1_method_11_code
def yX6_give : MethodName := ⟨RX6, "give", "(II)I"⟩
abbrev cX6_get : ByteArray := prog_1_method_12_code
def yX6_get : MethodName := ⟨RX6, "get", "()I"⟩
abbrev cX6_tick : ByteArray := prog_1_method_13_code
def yX6_tick : MethodName := ⟨RX6, "tick", "(I)I"⟩
abbrev cX6_tune : ByteArray := prog_1_method_14_code
def yX6_tune : MethodName := ⟨RX6, "tune", "()I"⟩
abbrev cX6_block : ByteArray := prog_1_method_15_code
def yX6_block : MethodName := ⟨RX6, "block", "(II)I"⟩
abbrev cX6_latest : ByteArray := prog_1_method_16_code
def yX6_latest : MethodName := ⟨RX6, "latest", "(I)I"⟩
abbrev cX6_word : ByteArray := prog_1_method_17_code
def yX6_word : MethodName := ⟨RX6, "word", "(I)I"⟩
abbrev cX6_later : ByteArray := prog_1_method_18_code
def yX6_later : MethodName := ⟨RX6, "later", "(II)I"⟩
abbrev cX6_count : ByteArray := prog_1_method_19_code
def yX6_count : MethodName := ⟨RX6, "count", "(I)I"⟩
abbrev cX6_isOutside : ByteArray := prog_1_method_20_code
def yX6_isOutside : MethodName := ⟨RX6, "isOutside", "(III)Z"⟩
abbrev cX6_isNoCommand : ByteArray := prog_1_method_21_code
def yX6_isNoCommand : MethodName := ⟨RX6, "isNoCommand", "(II)Z"⟩
abbrev cX6_asNumber : ByteArray := prog_1_method_22_code
def yX6_asNumber : MethodName := ⟨RX6, "asNumber", "(Z)I"⟩
abbrev cX6_commandCheck : ByteArray := prog_1_method_23_code
def yX6_commandCheck : MethodName := ⟨RX6, "commandCheck", "(II)I"⟩
abbrev cX6_contentCheck : ByteArray := prog_1_method_24_code
def yX6_contentCheck : MethodName := ⟨RX6, "contentCheck", "(I)I"⟩
abbrev cX6_checkOfBits : ByteArray := prog_1_method_25_code
def yX6_checkOfBits : MethodName := ⟨RX6, "checkOfBits", "(II)I"⟩
abbrev cX6_statesOf : ByteArray := prog_1_method_26_code
def yX6_statesOf : MethodName := ⟨RX6, "statesOf", "(I)I"⟩
abbrev cX6_isBarredByLock : ByteArray := prog_1_method_27_code
def yX6_isBarredByLock : MethodName := ⟨RX6, "isBarredByLock", "(I)Z"⟩
abbrev cX6_middleOfLongestRow : ByteArray := prog_1_method_28_code
def yX6_middleOfLongestRow : MethodName := ⟨RX6, "middleOfLongestRow", "(I)I"⟩
abbrev cX6_rowLength : ByteArray := prog_1_method_29_code
def yX6_rowLength : MethodName := ⟨RX6, "rowLength", "(II)I"⟩
abbrev cX6_renew : ByteArray := prog_1_method_30_code
def yX6_renew : MethodName := ⟨RX6, "renew", "(IIII)V"⟩
abbrev cX6_isPowered : ByteArray := prog_1_method_31_code
def yX6_isPowered : MethodName := ⟨RX6, "isPowered", "()Z"⟩
abbrev cX6_isStreaming : ByteArray := prog_1_method_32_code
def yX6_isStreaming : MethodName := ⟨RX6, "isStreaming", "()Z"⟩
abbrev cX6_start : ByteArray := prog_1_method_33_code
def yX6_start : MethodName := ⟨RX6, "start", "()V"⟩
abbrev cX6_goDark : ByteArray := prog_1_method_34_code
def yX6_goDark : MethodName := ⟨RX6, "goDark", "()V"⟩
abbrev cX6_tearUnfinished : ByteArray := prog_1_method_35_code
def yX6_tearUnfinished : MethodName := ⟨RX6, "tearUnfinished", "()V"⟩
abbrev cX6_note : ByteArray := prog_1_method_36_code
def yX6_note : MethodName := ⟨RX6, "note", "(I)V"⟩
abbrev cX6_refuse : ByteArray := prog_1_method_37_code
def yX6_refuse : MethodName := ⟨RX6, "refuse", "(I)I"⟩
abbrev cX6_hears : ByteArray := prog_1_method_38_code
def yX6_hears : MethodName := ⟨RX6, "hears", "(III)Z"⟩
abbrev cX6_isOpenTo : ByteArray := prog_1_method_39_code
def yX6_isOpenTo : MethodName := ⟨RX6, "isOpenTo", "(I)Z"⟩
abbrev cX6_obey : ByteArray := prog_1_method_40_code
def yX6_obey : MethodName := ⟨RX6, "obey", "(II)I"⟩
abbrev cX6_reset : ByteArray := prog_1_method_41_code
def yX6_reset : MethodName := ⟨RX6, "reset", "()I"⟩
abbrev cX6_wake : ByteArray := prog_1_method_42_code
def yX6_wake : MethodName := ⟨RX6, "wake", "()I"⟩
abbrev cX6_tellNumber : ByteArray := prog_1_method_43_code
def yX6_tellNumber : MethodName := ⟨RX6, "tellNumber", "()I"⟩
abbrev cX6_takeAddress : ByteArray := prog_1_method_44_code
def yX6_takeAddress : MethodName := ⟨RX6, "takeAddress", "()I"⟩
abbrev cX6_choose : ByteArray := prog_1_method_45_code
def yX6_choose : MethodName := ⟨RX6, "choose", "(I)I"⟩
abbrev cX6_tellStatus : ByteArray := prog_1_method_46_code
def yX6_tellStatus : MethodName := ⟨RX6, "tellStatus", "(I)I"⟩
abbrev cX6_switchLines : ByteArray := prog_1_method_47_code
def yX6_switchLines : MethodName := ⟨RX6, "switchLines", "(I)I"⟩
abbrev cX6_movePoint : ByteArray := prog_1_method_48_code
def yX6_movePoint : MethodName := ⟨RX6, "movePoint", "(I)I"⟩
abbrev cX6_expect : ByteArray := prog_1_method_49_code
def yX6_expect : MethodName := ⟨RX6, "expect", "(I)I"⟩
abbrev cX6_beginStream : ByteArray := prog_1_method_50_code
def yX6_beginStream : MethodName := ⟨RX6, "beginStream", "(IIZ)I"⟩
abbrev cX6_stop : ByteArray := prog_1_method_51_code
def yX6_stop : MethodName := ⟨RX6, "stop", "()I"⟩
abbrev cX6_eraseFrom : ByteArray := prog_1_method_52_code
def yX6_eraseFrom : MethodName := ⟨RX6, "eraseFrom", "(I)I"⟩
abbrev cX6_eraseTo : ByteArray := prog_1_method_53_code
def yX6_eraseTo : MethodName := ⟨RX6, "eraseTo", "(I)I"⟩
abbrev cX6_erase : ByteArray := prog_1_method_54_code
def yX6_erase : MethodName := ⟨RX6, "erase", "()I"⟩
abbrev cX6_beginErasing : ByteArray := prog_1_method_55_code
def yX6_beginErasing : MethodName := ⟨RX6, "beginErasing", "(II)I"⟩
abbrev cX6_changeLock : ByteArray := prog_1_method_56_code
def yX6_changeLock : MethodName := ⟨RX6, "changeLock", "(I)I"⟩
abbrev cX6_textIsSecret : ByteArray := prog_1_method_57_code
def yX6_textIsSecret : MethodName := ⟨RX6, "textIsSecret", "()Z"⟩
abbrev cX6_unlock : ByteArray := prog_1_method_58_code
def yX6_unlock : MethodName := ⟨RX6, "unlock", "()I"⟩
abbrev cX6_setSecret : ByteArray := prog_1_method_59_code
def yX6_setSecret : MethodName := ⟨RX6, "setSecret", "(Z)I"⟩
abbrev cX6_clearSecret : ByteArray := prog_1_method_60_code
def yX6_clearSecret : MethodName := ⟨RX6, "clearSecret", "()I"⟩
abbrev cX6_lock : ByteArray := prog_1_method_61_code
def yX6_lock : MethodName := ⟨RX6, "lock", "()I"⟩
abbrev cX6_force : ByteArray := prog_1_method_62_code
def yX6_force : MethodName := ⟨RX6, "force", "()I"⟩
abbrev cX6_work : ByteArray := prog_1_method_63_code
def yX6_work : MethodName := ⟨RX6, "work", "()V"⟩
abbrev cX6_writeFurther : ByteArray := prog_1_method_64_code
def yX6_writeFurther : MethodName := ⟨RX6, "writeFurther", "()V"⟩
abbrev cX6_eraseFurther : ByteArray := prog_1_method_65_code
def yX6_eraseFurther : MethodName := ⟨RX6, "eraseFurther", "()V"⟩
def RX7 : String := "BlockCardModel"
def TX7 : u_T := fun k => match k with
  | 0 => ("BlockCardModel", "length", "I", false)
  | 1 => ("BlockCardModel", "text", "[I", true)
  | 2 => ("BlockCardModel", "heat", "I", false)
  | 3 => ("BlockCardModel", "blocks", "I", false)
  | 4 => ("BlockCardModel", "size", "I", false)
  | 5 => ("BlockCardModel", "idleness", "I", false)
  | 6 => ("BlockCardModel", "number", "I", false)
  | 7 => ("BlockCardModel", "ticks", "I", false)
  | 8 => ("BlockCardModel", "well", "I", false)
  | 9 => ("BlockCardModel", "content", "[I", true)
  | 10 => ("BlockCardModel", "torn", "[I", true)
  | 11 => ("BlockCardModel", "wordLong", "I", false)
  | 12 => ("BlockCardModel", "word", "[I", true)
  | 13 => ("BlockCardModel", "latestMany", "I", false)
  | 14 => ("BlockCardModel", "latest", "[I", true)
  | 15 => ("BlockCardModel", "isOn", "Z", false)
  | 16 => ("BlockCardModel", "state", "I", false)
  | 17 => ("BlockCardModel", "address", "I", false)
  | 18 => ("BlockCardModel", "lines", "I", false)
  | 19 => ("BlockCardModel", "speed", "I", false)
  | 20 => ("BlockCardModel", "point", "I", false)
  | 21 => ("BlockCardModel", "isLocked", "Z", false)
  | 22 => ("BlockCardModel", "notes", "I", false)
  | 23 => ("BlockCardModel", "laterMany", "I", false)
  | 24 => ("BlockCardModel", "laterBlock", "[I", true)
  | 25 => ("BlockCardModel", "laterContent", "[I", true)
  | 26 => ("BlockCardModel", "laterTicks", "[I", true)
  | 27 => ("BlockCardModel", "eraseFrom", "I", false)
  | 28 => ("BlockCardModel", "eraseMany", "I", false)
  | 29 => ("BlockCardModel", "eraseTicks", "I", false)
  | 30 => ("BlockCardModel", "told", "I", false)
  | 31 => ("BlockCardModel", "woken", "I", false)
  | 32 => ("BlockCardModel", "begun", "I", false)
  | 33 => ("BlockCardModel", "from", "I", false)
  | 34 => ("BlockCardModel", "to", "I", false)
  | 35 => ("BlockCardModel", "next", "I", false)
  | 36 => ("BlockCardModel", "left", "I", false)
  | _ => ("BlockCardModel", "isWrong", "Z", false)
def tyX7 : Nat → FieldType := fun k => match k with
  | 0 => .int
  | 1 => .array .int
  | 2 => .int
  | 3 => .int
  | 4 => .int
  | 5 => .int
  | 6 => .int
  | 7 => .int
  | 8 => .int
  | 9 => .array .int
  | 10 => .array .int
  | 11 => .int
  | 12 => .array .int
  | 13 => .int
  | 14 => .array .int
  | 15 => .boolean
  | 16 => .int
  | 17 => .int
  | 18 => .int
  | 19 => .int
  | 20 => .int
  | 21 => .boolean
  | 22 => .int
  | 23 => .int
  | 24 => .array .int
  | 25 => .array .int
  | 26 => .array .int
  | 27 => .int
  | 28 => .int
  | 29 => .int
  | 30 => .int
  | 31 => .int
  | 32 => .int
  | 33 => .int
  | 34 => .int
  | 35 => .int
  | 36 => .int
  | _ => .boolean
abbrev wsX70 : List Cond := u_ws RX7 TX7 38
theorem nmX7 : ∀ a, a < 38 → ∀ b, b < 38 → a ≠ b → (TX7 a).2.1 ≠ (TX7 b).2.1 := by decide +kernel
theorem tyX7_ok : ∀ k, k < 38 → parseFieldDescriptor (TX7 k).2.2.1 = some (tyX7 k) := by decide +kernel
abbrev cX7_init : ByteArray := prog_9_method_1_code
def yX7_init : MethodName := ⟨RX7, "<init>", "()V"⟩
abbrev cX7_in : ByteArray := prog_9_method_2_code
def yX7_in : MethodName := ⟨RX7, "in", "(JJJ)Z"⟩
abbrev cX7_make : ByteArray := prog_9_method_3_code
def yX7_make : MethodName := ⟨RX7, "make", "(IIII)I"⟩
abbrev cX7_begins : ByteArray := prog_9_method_4_code
def yX7_begins : MethodName := ⟨RX7, "begins", "()V"⟩
abbrev cX7_forgets : ByteArray := prog_9_method_5_code
def yX7_forgets : MethodName := ⟨RX7, "forgets", "(I)V"⟩
abbrev cX7_empties : ByteArray := prog_9_method_6_code
def yX7_empties : MethodName := ⟨RX7, "empties", "(II)V"⟩
abbrev cX7_groupEmpties : ByteArray := prog_9_method_7_code
def yX7_groupEmpties : MethodName := ⟨RX7, "groupEmpties", "(II)V"⟩
abbrev cX7_groups : ByteArray := prog_9_method_8_code
def yX7_groups : MethodName := ⟨RX7, "groups", "()I"⟩
abbrev cX7_cuts : ByteArray := prog_9_method_9_code
def yX7_cuts : MethodName := ⟨RX7, "cuts", "()V"⟩
abbrev cX7_power : ByteArray := prog_9_method_10_code
def yX7_power : MethodName := ⟨RX7, "power", "(I)I"⟩
abbrev cX7_warm : ByteArray := prog_9_method_11_code
def yX7_warm : MethodName := ⟨RX7, "warm", "(I)I"⟩
abbrev cX7_write : ByteArray := prog_9_method_12_code
def yX7_write : MethodName := ⟨RX7, "write", "(I)I"⟩
abbrev cX7_wipe : ByteArray := prog_9_method_13_code
def yX7_wipe : MethodName := ⟨RX7, "wipe", "()I"⟩
abbrev cX7_checked : ByteArray := prog_9_method_14_code
def yX7_checked : MethodName := ⟨RX7, "checked", "(II)I"⟩
abbrev cX7_check : ByteArray := prog_9_method_15_code
def yX7_check : MethodName := ⟨RX7, "check", "(II)I"⟩
abbrev cX7_checkOf : ByteArray := prog_9_method_16_code
def yX7_checkOf : MethodName := ⟨RX7, "checkOf", "(I)I"⟩
abbrev cX7_isInWindow : ByteArray := prog_9_method_17_code
def yX7_isInWindow : MethodName := ⟨RX7, "isInWindow", "()Z"⟩
abbrev cX7_isOne : ByteArray := prog_9_method_18_code
def yX7_isOne : MethodName := ⟨RX7, "isOne", "(I)Z"⟩
abbrev cX7_isStarred : ByteArray := prog_9_method_19_code
def yX7_isStarred : MethodName := ⟨RX7, "isStarred", "(I)Z"⟩
abbrev cX7_noting : ByteArray := prog_9_method_20_code
def yX7_noting : MethodName := ⟨RX7, "noting", "(I)I"⟩
abbrev cX7_send : ByteArray := prog_9_method_21_code
def yX7_send : MethodName := ⟨RX7, "send", "(III)I"⟩
abbrev cX7_tell : ByteArray := prog_9_method_22_code
def yX7_tell : MethodName := ⟨RX7, "tell", "(II)I"⟩
abbrev cX7_first : ByteArray := prog_9_method_23_code
def yX7_first : MethodName := ⟨RX7, "first", "(II)I"⟩
abbrev cX7_chooses : ByteArray := prog_9_method_24_code
def yX7_chooses : MethodName := ⟨RX7, "chooses", "(I)I"⟩
abbrev cX7_status : ByteArray := prog_9_method_25_code
def yX7_status : MethodName := ⟨RX7, "status", "()I"⟩
abbrev cX7_switches : ByteArray := prog_9_method_26_code
def yX7_switches : MethodName := ⟨RX7, "switches", "(II)V"⟩
abbrev cX7_stops : ByteArray := prog_9_method_27_code
def yX7_stops : MethodName := ⟨RX7, "stops", "()I"⟩
abbrev cX7_streams : ByteArray := prog_9_method_28_code
def yX7_streams : MethodName := ⟨RX7, "streams", "(II)I"⟩
abbrev cX7_streamsFrom : ByteArray := prog_9_method_29_code
def yX7_streamsFrom : MethodName := ⟨RX7, "streamsFrom", "(II)I"⟩
abbrev cX7_erases : ByteArray := prog_9_method_30_code
def yX7_erases : MethodName := ⟨RX7, "erases", "(II)I"⟩
abbrev cX7_endsAt : ByteArray := prog_9_method_31_code
def yX7_endsAt : MethodName := ⟨RX7, "endsAt", "(I)I"⟩
abbrev cX7_erasesGroups : ByteArray := prog_9_method_32_code
def yX7_erasesGroups : MethodName := ⟨RX7, "erasesGroups", "(II)I"⟩
abbrev cX7_isWord : ByteArray := prog_9_method_33_code
def yX7_isWord : MethodName := ⟨RX7, "isWord", "(II)Z"⟩
abbrev cX7_sets : ByteArray := prog_9_method_34_code
def yX7_sets : MethodName := ⟨RX7, "sets", "()Z"⟩
abbrev cX7_locks : ByteArray := prog_9_method_35_code
def yX7_locks : MethodName := ⟨RX7, "locks", "(I)I"⟩
abbrev cX7_give : ByteArray := prog_9_method_36_code
def yX7_give : MethodName := ⟨RX7, "give", "(II)I"⟩
abbrev cX7_get : ByteArray := prog_9_method_37_code
def yX7_get : MethodName := ⟨RX7, "get", "()I"⟩
abbrev cX7_writes : ByteArray := prog_9_method_38_code
def yX7_writes : MethodName := ⟨RX7, "writes", "()V"⟩
abbrev cX7_oneTick : ByteArray := prog_9_method_39_code
def yX7_oneTick : MethodName := ⟨RX7, "oneTick", "()V"⟩
abbrev cX7_tick : ByteArray := prog_9_method_40_code
def yX7_tick : MethodName := ⟨RX7, "tick", "(I)I"⟩
abbrev cX7_tune : ByteArray := prog_9_method_41_code
def yX7_tune : MethodName := ⟨RX7, "tune", "()I"⟩
abbrev cX7_block : ByteArray := prog_9_method_42_code
def yX7_block : MethodName := ⟨RX7, "block", "(II)I"⟩
abbrev cX7_latest : ByteArray := prog_9_method_43_code
def yX7_latest : MethodName := ⟨RX7, "latest", "(I)I"⟩
abbrev cX7_word : ByteArray := prog_9_method_44_code
def yX7_word : MethodName := ⟨RX7, "word", "(I)I"⟩
abbrev cX7_later : ByteArray := prog_9_method_45_code
def yX7_later : MethodName := ⟨RX7, "later", "(II)I"⟩
abbrev cX7_blocksThat : ByteArray := prog_9_method_46_code
def yX7_blocksThat : MethodName := ⟨RX7, "blocksThat", "(Z)I"⟩
abbrev cX7_countPower : ByteArray := prog_9_method_47_code
def yX7_countPower : MethodName := ⟨RX7, "countPower", "(I)I"⟩
abbrev cX7_count : ByteArray := prog_9_method_48_code
def yX7_count : MethodName := ⟨RX7, "count", "(I)I"⟩
def RJ9 : String := "java/lang/Math"
def TJ9 : u_T := fun k => match k with
  | _ => ("", "", "", false)
def tyJ9 : Nat → FieldType := fun k => match k with
  | _ => .int
abbrev wsJ90 : List Cond := u_ws RJ9 TJ9 0
theorem nmJ9 : ∀ a, a < 0 → ∀ b, b < 0 → a ≠ b → (TJ9 a).2.1 ≠ (TJ9 b).2.1 := by decide +kernel
theorem tyJ9_ok : ∀ k, k < 0 → parseFieldDescriptor (TJ9 k).2.2.1 = some (tyJ9 k) := by decide +kernel
abbrev cJ9_floorMod_7cf53 : ByteArray := prog_10_method_50_code
def yJ9_floorMod_7cf53 : MethodName := ⟨RJ9, "floorMod", "(II)I"⟩
abbrev cJ9_max_7cf53 : ByteArray := prog_10_method_65_code
def yJ9_max_7cf53 : MethodName := ⟨RJ9, "max", "(II)I"⟩
abbrev cJ9_min_7cf53 : ByteArray := prog_10_method_69_code
def yJ9_min_7cf53 : MethodName := ⟨RJ9, "min", "(II)I"⟩
def RL : String := "BlockCardLaw"
abbrev cL_law : ByteArray := code
def yL_law : MethodName := ⟨RL, "law", "([I)Z"⟩
def wsX0_init : List Cond := .code yX0_init cX0_init 1 none :: ([.methodLink RX0 3 objectInit, .instanceMethod objectInit, .code objectInit ⟨#[0xb1]⟩ 1 none])
def wsX0_forget : List Cond := .code yX0_forget cX0_forget 1 none :: ([.fieldLink RX0 24 "BlockCard$Eraser" "begun" "I", .fieldLink RX0 27 "BlockCard$Eraser" "from" "I", .fieldLink RX0 30 "BlockCard$Eraser" "to" "I"] ++ wsX00)
def wsX0_clear : List Cond := .code yX0_clear cX0_clear 1 none :: ([.fieldLink RX0 14 "BlockCard$Eraser" "lowest" "I", .fieldLink RX0 18 "BlockCard$Eraser" "left" "I", .fieldLink RX0 21 "BlockCard$Eraser" "ticksOfLowest" "I", .methodLink RX0 9 yX0_forget, .instanceMethod yX0_forget, .selects RX0 yX0_forget yX0_forget, .initialized RX0, .code yX0_forget cX0_forget 1 none, .fieldLink RX0 24 "BlockCard$Eraser" "begun" "I", .fieldLink RX0 27 "BlockCard$Eraser" "from" "I", .fieldLink RX0 30 "BlockCard$Eraser" "to" "I"] ++ wsX00)
def wsX0_isBrokenOffBy : List Cond := .code yX0_isBrokenOffBy cX0_isBrokenOffBy 3 (some .boolean) :: ([.fieldLink RX0 24 "BlockCard$Eraser" "begun" "I"] ++ wsX00)
def wsX0_beginFrom : List Cond := .code yX0_beginFrom cX0_beginFrom 2 none :: ([.fieldLink RX0 24 "BlockCard$Eraser" "begun" "I", .fieldLink RX0 27 "BlockCard$Eraser" "from" "I"] ++ wsX00)
def wsX0_continueTo : List Cond := .code yX0_continueTo cX0_continueTo 2 (some .boolean) :: ([.fieldLink RX0 24 "BlockCard$Eraser" "begun" "I", .fieldLink RX0 27 "BlockCard$Eraser" "from" "I", .fieldLink RX0 30 "BlockCard$Eraser" "to" "I"] ++ wsX00)
def wsX0_isReady : List Cond := .code yX0_isReady cX0_isReady 1 (some .boolean) :: ([.fieldLink RX0 24 "BlockCard$Eraser" "begun" "I"] ++ wsX00)
def wsX0_from : List Cond := .code yX0_from cX0_from 1 (some .int) :: ([.fieldLink RX0 27 "BlockCard$Eraser" "from" "I"] ++ wsX00)
def wsX0_to : List Cond := .code yX0_to cX0_to 1 (some .int) :: ([.fieldLink RX0 30 "BlockCard$Eraser" "to" "I"] ++ wsX00)
def wsX0_begin : List Cond := .code yX0_begin cX0_begin 3 none :: ([.fieldLink RX0 14 "BlockCard$Eraser" "lowest" "I", .fieldLink RX0 18 "BlockCard$Eraser" "left" "I", .fieldLink RX0 21 "BlockCard$Eraser" "ticksOfLowest" "I", .methodLink RX0 9 yX0_forget, .instanceMethod yX0_forget, .selects RX0 yX0_forget yX0_forget, .initialized RX0, .code yX0_forget cX0_forget 1 none, .fieldLink RX0 24 "BlockCard$Eraser" "begun" "I", .fieldLink RX0 27 "BlockCard$Eraser" "from" "I", .fieldLink RX0 30 "BlockCard$Eraser" "to" "I"] ++ wsX00)
def wsX0_groupsLeft : List Cond := .code yX0_groupsLeft cX0_groupsLeft 1 (some .int) :: ([.fieldLink RX0 18 "BlockCard$Eraser" "left" "I"] ++ wsX00)
def wsX0_group : List Cond := .code yX0_group cX0_group 1 (some .int) :: ([.fieldLink RX0 14 "BlockCard$Eraser" "lowest" "I"] ++ wsX00)
def wsX0_groupHasBegun : List Cond := .code yX0_groupHasBegun cX0_groupHasBegun 1 (some .boolean) :: ([.fieldLink RX0 18 "BlockCard$Eraser" "left" "I", .fieldLink RX0 21 "BlockCard$Eraser" "ticksOfLowest" "I"] ++ wsX00)
def wsX0_tickGroup : List Cond := .code yX0_tickGroup cX0_tickGroup 1 (some .boolean) :: ([.fieldLink RX0 21 "BlockCard$Eraser" "ticksOfLowest" "I", .fieldLink RX0 14 "BlockCard$Eraser" "lowest" "I", .fieldLink RX0 18 "BlockCard$Eraser" "left" "I"] ++ wsX00)
def wsX1_init : List Cond := .code yX1_init cX1_init 2 none :: ([.methodLink RX1 3 objectInit, .instanceMethod objectInit, .code objectInit ⟨#[0xb1]⟩ 1 none, .methodLink RX1 9 Lib.Math.max.name, .static Lib.Math.max.name, .initialized "java/lang/Math", .code Lib.Math.max.name Lib.Math.max.code 2 (some .int), .arrayClass .int, .fieldLink RX1 15 "BlockCard$Letters" "signs" "[I"] ++ wsX10)
def wsX1_length : List Cond := .code yX1_length cX1_length 1 (some .int) :: ([.fieldLink RX1 21 "BlockCard$Letters" "length" "I"] ++ wsX10)
def wsX1_empty : List Cond := .code yX1_empty cX1_empty 1 none :: ([.fieldLink RX1 21 "BlockCard$Letters" "length" "I"] ++ wsX10)
def wsX1_append : List Cond := .code yX1_append cX1_append 2 (some .boolean) :: ([.fieldLink RX1 21 "BlockCard$Letters" "length" "I", .fieldLink RX1 15 "BlockCard$Letters" "signs" "[I"] ++ wsX10)
def wsX1_at : List Cond := .code yX1_at cX1_at 2 (some .int) :: ([.fieldLink RX1 21 "BlockCard$Letters" "length" "I", .fieldLink RX1 15 "BlockCard$Letters" "signs" "[I"] ++ wsX10)
def wsX1_startsWith : List Cond := .code yX1_startsWith cX1_startsWith 3 (some .boolean) :: ([.fieldLink RX1 21 "BlockCard$Letters" "length" "I", .methodLink RX1 25 yX1_at, .instanceMethod yX1_at, .selects RX1 yX1_at yX1_at, .initialized RX1, .code yX1_at cX1_at 2 (some .int), .fieldLink RX1 15 "BlockCard$Letters" "signs" "[I"] ++ wsX10)
def wsX1_becomeTail : List Cond := .code yX1_becomeTail cX1_becomeTail 4 none :: ([.fieldLink RX1 21 "BlockCard$Letters" "length" "I", .methodLink RX1 29 yX1_empty, .instanceMethod yX1_empty, .selects RX1 yX1_empty yX1_empty, .initialized RX1, .code yX1_empty cX1_empty 1 none, .methodLink RX1 25 yX1_at, .instanceMethod yX1_at, .selects RX1 yX1_at yX1_at, .code yX1_at cX1_at 2 (some .int), .fieldLink RX1 15 "BlockCard$Letters" "signs" "[I", .methodLink RX1 32 yX1_append, .instanceMethod yX1_append, .selects RX1 yX1_append yX1_append, .code yX1_append cX1_append 2 (some .boolean)] ++ wsX10)
def wsX2_init : List Cond := .code yX2_init cX2_init 1 none :: ([.methodLink RX2 3 objectInit, .instanceMethod objectInit, .code objectInit ⟨#[0xb1]⟩ 1 none])
def wsX2_clear : List Cond := .code yX2_clear cX2_clear 1 none :: ([.fieldLink RX2 9 "BlockCard$Link" "lines" "I", .fieldLink RX2 15 "BlockCard$Link" "speed" "I", .fieldLink RX2 18 "BlockCard$Link" "point" "I"] ++ wsX20)
def wsX2_lines : List Cond := .code yX2_lines cX2_lines 1 (some .int) :: ([.fieldLink RX2 9 "BlockCard$Link" "lines" "I"] ++ wsX20)
def wsX2_speed : List Cond := .code yX2_speed cX2_speed 1 (some .int) :: ([.fieldLink RX2 15 "BlockCard$Link" "speed" "I"] ++ wsX20)
def wsX2_point : List Cond := .code yX2_point cX2_point 1 (some .int) :: ([.fieldLink RX2 18 "BlockCard$Link" "point" "I"] ++ wsX20)
def wsX2_change : List Cond := .code yX2_change cX2_change 3 (some .boolean) :: ([.fieldLink RX2 15 "BlockCard$Link" "speed" "I", .fieldLink RX2 9 "BlockCard$Link" "lines" "I"] ++ wsX20)
def wsX2_look : List Cond := .code yX2_look cX2_look 2 none :: ([.fieldLink RX2 18 "BlockCard$Link" "point" "I"] ++ wsX20)
def wsX2_ticksOfBlock : List Cond := .code yX2_ticksOfBlock cX2_ticksOfBlock 1 (some .int) :: ([.fieldLink RX2 9 "BlockCard$Link" "lines" "I"] ++ wsX20)
def wsJ9_floorMod_7cf53 : List Cond := .code yJ9_floorMod_7cf53 cJ9_floorMod_7cf53 3 (some .int) :: ([])
def wsX2_isInWindow : List Cond := .code yX2_isInWindow cX2_isInWindow 5 (some .boolean) :: ([.fieldLink RX2 15 "BlockCard$Link" "speed" "I", .fieldLink RX2 18 "BlockCard$Link" "point" "I", .methodLink RX2 27 Lib.Math.min.name, .static Lib.Math.min.name, .initialized "java/lang/Math", .code Lib.Math.min.name Lib.Math.min.code 2 (some .int), .methodLink RX2 21 yJ9_floorMod_7cf53, .static yJ9_floorMod_7cf53, .initialized RJ9, .code yJ9_floorMod_7cf53 cJ9_floorMod_7cf53 3 (some .int)] ++ wsX20)
def wsX3_init : List Cond := .code yX3_init cX3_init 1 none :: ([.methodLink RX3 3 objectInit, .instanceMethod objectInit, .code objectInit ⟨#[0xb1]⟩ 1 none, .arrayClass .int, .fieldLink RX3 9 "BlockCard$Memory" "contents" "[I", .arrayClass .boolean, .fieldLink RX3 15 "BlockCard$Memory" "torn" "[Z", .fieldLink RX3 19 "BlockCard$Memory" "written" "[I"] ++ wsX30)
def wsX3_clear : List Cond := .code yX3_clear cX3_clear 4 none :: ([.methodLink RX3 22 Lib.Math.min.name, .static Lib.Math.min.name, .initialized "java/lang/Math", .code Lib.Math.min.name Lib.Math.min.code 2 (some .int), .methodLink RX3 28 Lib.Math.max.name, .static Lib.Math.max.name, .code Lib.Math.max.name Lib.Math.max.code 2 (some .int), .fieldLink RX3 31 "BlockCard$Memory" "size" "I", .fieldLink RX3 35 "BlockCard$Memory" "groupSize" "I", .fieldLink RX3 38 "BlockCard$Memory" "writtenCount" "I", .fieldLink RX3 9 "BlockCard$Memory" "contents" "[I", .constant RX3 41 (65535), .fieldLink RX3 15 "BlockCard$Memory" "torn" "[Z"] ++ wsX30)
def wsX3_size : List Cond := .code yX3_size cX3_size 1 (some .int) :: ([.fieldLink RX3 31 "BlockCard$Memory" "size" "I"] ++ wsX30)
def wsX3_groupSize : List Cond := .code yX3_groupSize cX3_groupSize 1 (some .int) :: ([.fieldLink RX3 35 "BlockCard$Memory" "groupSize" "I"] ++ wsX30)
def wsX3_has : List Cond := .code yX3_has cX3_has 2 (some .boolean) :: ([.fieldLink RX3 31 "BlockCard$Memory" "size" "I"] ++ wsX30)
def wsX3_groupOf : List Cond := .code yX3_groupOf cX3_groupOf 2 (some .int) :: ([.fieldLink RX3 35 "BlockCard$Memory" "groupSize" "I"] ++ wsX30)
def wsX3_contentOf : List Cond := .code yX3_contentOf cX3_contentOf 2 (some .int) :: ([.fieldLink RX3 9 "BlockCard$Memory" "contents" "[I", .constant RX3 41 (65535), .methodLink RX3 42 yX3_has, .instanceMethod yX3_has, .selects RX3 yX3_has yX3_has, .initialized RX3, .code yX3_has cX3_has 2 (some .boolean), .fieldLink RX3 31 "BlockCard$Memory" "size" "I"] ++ wsX30)
def wsX3_isTorn : List Cond := .code yX3_isTorn cX3_isTorn 2 (some .boolean) :: ([.fieldLink RX3 15 "BlockCard$Memory" "torn" "[Z", .methodLink RX3 42 yX3_has, .instanceMethod yX3_has, .selects RX3 yX3_has yX3_has, .initialized RX3, .code yX3_has cX3_has 2 (some .boolean), .fieldLink RX3 31 "BlockCard$Memory" "size" "I"] ++ wsX30)
def wsX3_writtenAt : List Cond := .code yX3_writtenAt cX3_writtenAt 2 (some .int) :: ([.fieldLink RX3 38 "BlockCard$Memory" "writtenCount" "I", .fieldLink RX3 19 "BlockCard$Memory" "written" "[I"] ++ wsX30)
def wsX3_dropWritten : List Cond := .code yX3_dropWritten cX3_dropWritten 5 none :: ([.fieldLink RX3 38 "BlockCard$Memory" "writtenCount" "I", .fieldLink RX3 19 "BlockCard$Memory" "written" "[I"] ++ wsX30)
def wsX3_addWrittenFirst : List Cond := .code yX3_addWrittenFirst cX3_addWrittenFirst 3 none :: ([.fieldLink RX3 38 "BlockCard$Memory" "writtenCount" "I", .fieldLink RX3 19 "BlockCard$Memory" "written" "[I"] ++ wsX30)
def wsX3_put : List Cond := .code yX3_put cX3_put 3 none :: ([.fieldLink RX3 9 "BlockCard$Memory" "contents" "[I", .fieldLink RX3 15 "BlockCard$Memory" "torn" "[Z", .methodLink RX3 42 yX3_has, .instanceMethod yX3_has, .selects RX3 yX3_has yX3_has, .initialized RX3, .code yX3_has cX3_has 2 (some .boolean), .fieldLink RX3 31 "BlockCard$Memory" "size" "I", .methodLink RX3 46 yX3_dropWritten, .instanceMethod yX3_dropWritten, .selects RX3 yX3_dropWritten yX3_dropWritten, .code yX3_dropWritten cX3_dropWritten 5 none, .fieldLink RX3 38 "BlockCard$Memory" "writtenCount" "I", .fieldLink RX3 19 "BlockCard$Memory" "written" "[I", .methodLink RX3 50 yX3_addWrittenFirst, .instanceMethod yX3_addWrittenFirst, .selects RX3 yX3_addWrittenFirst yX3_addWrittenFirst, .code yX3_addWrittenFirst cX3_addWrittenFirst 3 none] ++ wsX30)
def wsX3_blank : List Cond := .code yX3_blank cX3_blank 6 none :: ([.fieldLink RX3 31 "BlockCard$Memory" "size" "I", .methodLink RX3 22 Lib.Math.min.name, .static Lib.Math.min.name, .initialized "java/lang/Math", .code Lib.Math.min.name Lib.Math.min.code 2 (some .int), .methodLink RX3 28 Lib.Math.max.name, .static Lib.Math.max.name, .code Lib.Math.max.name Lib.Math.max.code 2 (some .int), .fieldLink RX3 9 "BlockCard$Memory" "contents" "[I", .constant RX3 41 (65535), .fieldLink RX3 15 "BlockCard$Memory" "torn" "[Z", .methodLink RX3 46 yX3_dropWritten, .instanceMethod yX3_dropWritten, .selects RX3 yX3_dropWritten yX3_dropWritten, .initialized RX3, .code yX3_dropWritten cX3_dropWritten 5 none, .fieldLink RX3 38 "BlockCard$Memory" "writtenCount" "I", .fieldLink RX3 19 "BlockCard$Memory" "written" "[I"] ++ wsX30)
def wsX3_tear : List Cond := .code yX3_tear cX3_tear 2 none :: ([.methodLink RX3 54 yX3_blank, .instanceMethod yX3_blank, .selects RX3 yX3_blank yX3_blank, .initialized RX3, .code yX3_blank cX3_blank 6 none, .fieldLink RX3 31 "BlockCard$Memory" "size" "I", .methodLink RX3 22 Lib.Math.min.name, .static Lib.Math.min.name, .initialized "java/lang/Math", .code Lib.Math.min.name Lib.Math.min.code 2 (some .int), .methodLink RX3 28 Lib.Math.max.name, .static Lib.Math.max.name, .code Lib.Math.max.name Lib.Math.max.code 2 (some .int), .fieldLink RX3 9 "BlockCard$Memory" "contents" "[I", .constant RX3 41 (65535), .fieldLink RX3 15 "BlockCard$Memory" "torn" "[Z", .methodLink RX3 46 yX3_dropWritten, .instanceMethod yX3_dropWritten, .selects RX3 yX3_dropWritten yX3_dropWritten, .code yX3_dropWritten cX3_dropWritten 5 none, .fieldLink RX3 38 "BlockCard$Memory" "writtenCount" "I", .fieldLink RX3 19 "BlockCard$Memory" "written" "[I"] ++ wsX30)
def wsX3_tearGroup : List Cond := .code yX3_tearGroup cX3_tearGroup 2 none :: ([.fieldLink RX3 35 "BlockCard$Memory" "groupSize" "I", .methodLink RX3 54 yX3_blank, .instanceMethod yX3_blank, .selects RX3 yX3_blank yX3_blank, .initialized RX3, .code yX3_blank cX3_blank 6 none, .fieldLink RX3 31 "BlockCard$Memory" "size" "I", .methodLink RX3 22 Lib.Math.min.name, .static Lib.Math.min.name, .initialized "java/lang/Math", .code Lib.Math.min.name Lib.Math.min.code 2 (some .int), .methodLink RX3 28 Lib.Math.max.name, .static Lib.Math.max.name, .code Lib.Math.max.name Lib.Math.max.code 2 (some .int), .fieldLink RX3 9 "BlockCard$Memory" "contents" "[I", .constant RX3 41 (65535), .fieldLink RX3 15 "BlockCard$Memory" "torn" "[Z", .methodLink RX3 46 yX3_dropWritten, .instanceMethod yX3_dropWritten, .selects RX3 yX3_dropWritten yX3_dropWritten, .code yX3_dropWritten cX3_dropWritten 5 none, .fieldLink RX3 38 "BlockCard$Memory" "writtenCount" "I", .fieldLink RX3 19 "BlockCard$Memory" "written" "[I"] ++ wsX30)
def wsX3_eraseGroup : List Cond := .code yX3_eraseGroup cX3_eraseGroup 2 none :: ([.fieldLink RX3 35 "BlockCard$Memory" "groupSize" "I", .methodLink RX3 54 yX3_blank, .instanceMethod yX3_blank, .selects RX3 yX3_blank yX3_blank, .initialized RX3, .code yX3_blank cX3_blank 6 none, .fieldLink RX3 31 "BlockCard$Memory" "size" "I", .methodLink RX3 22 Lib.Math.min.name, .static Lib.Math.min.name, .initialized "java/lang/Math", .code Lib.Math.min.name Lib.Math.min.code 2 (some .int), .methodLink RX3 28 Lib.Math.max.name, .static Lib.Math.max.name, .code Lib.Math.max.name Lib.Math.max.code 2 (some .int), .fieldLink RX3 9 "BlockCard$Memory" "contents" "[I", .constant RX3 41 (65535), .fieldLink RX3 15 "BlockCard$Memory" "torn" "[Z", .methodLink RX3 46 yX3_dropWritten, .instanceMethod yX3_dropWritten, .selects RX3 yX3_dropWritten yX3_dropWritten, .code yX3_dropWritten cX3_dropWritten 5 none, .fieldLink RX3 38 "BlockCard$Memory" "writtenCount" "I", .fieldLink RX3 19 "BlockCard$Memory" "written" "[I"] ++ wsX30)
def wsX6_asNumber : List Cond := .code yX6_asNumber cX6_asNumber 1 (some .int) :: ([])
def wsX3_tornBlocks : List Cond := .code yX3_tornBlocks cX3_tornBlocks 3 (some .int) :: ([.fieldLink RX3 31 "BlockCard$Memory" "size" "I", .methodLink RX3 58 yX3_isTorn, .instanceMethod yX3_isTorn, .selects RX3 yX3_isTorn yX3_isTorn, .initialized RX3, .code yX3_isTorn cX3_isTorn 2 (some .boolean), .fieldLink RX3 15 "BlockCard$Memory" "torn" "[Z", .methodLink RX3 42 yX3_has, .instanceMethod yX3_has, .selects RX3 yX3_has yX3_has, .code yX3_has cX3_has 2 (some .boolean), .static yX6_asNumber, .initialized RX6, .code yX6_asNumber cX6_asNumber 1 (some .int)] ++ wsX30)
def wsX3_filledBlocks : List Cond := .code yX3_filledBlocks cX3_filledBlocks 3 (some .int) :: ([.fieldLink RX3 31 "BlockCard$Memory" "size" "I", .constant RX3 41 (65535), .methodLink RX3 65 yX3_contentOf, .instanceMethod yX3_contentOf, .selects RX3 yX3_contentOf yX3_contentOf, .initialized RX3, .code yX3_contentOf cX3_contentOf 2 (some .int), .fieldLink RX3 9 "BlockCard$Memory" "contents" "[I", .methodLink RX3 42 yX3_has, .instanceMethod yX3_has, .selects RX3 yX3_has yX3_has, .code yX3_has cX3_has 2 (some .boolean), .static yX6_asNumber, .initialized RX6, .code yX6_asNumber cX6_asNumber 1 (some .int)] ++ wsX30)
def wsX4_init : List Cond := .code yX4_init cX4_init 1 none :: ([.methodLink RX4 3 objectInit, .instanceMethod objectInit, .code objectInit ⟨#[0xb1]⟩ 1 none, .arrayClass .int, .fieldLink RX4 9 "BlockCard$Queue" "places" "[I", .fieldLink RX4 15 "BlockCard$Queue" "contents" "[I"] ++ wsX40)
def wsX4_clear : List Cond := .code yX4_clear cX4_clear 1 none :: ([.fieldLink RX4 18 "BlockCard$Queue" "size" "I", .fieldLink RX4 22 "BlockCard$Queue" "ticksOfFirst" "I"] ++ wsX40)
def wsX4_size : List Cond := .code yX4_size cX4_size 1 (some .int) :: ([.fieldLink RX4 18 "BlockCard$Queue" "size" "I"] ++ wsX40)
def wsX4_isFull : List Cond := .code yX4_isFull cX4_isFull 1 (some .boolean) :: ([.fieldLink RX4 18 "BlockCard$Queue" "size" "I"] ++ wsX40)
def wsX4_append : List Cond := .code yX4_append cX4_append 3 none :: ([.fieldLink RX4 18 "BlockCard$Queue" "size" "I", .fieldLink RX4 9 "BlockCard$Queue" "places" "[I", .fieldLink RX4 15 "BlockCard$Queue" "contents" "[I"] ++ wsX40)
def wsX4_tellOf : List Cond := .code yX4_tellOf cX4_tellOf 3 (some .int) :: ([.fieldLink RX4 18 "BlockCard$Queue" "size" "I", .fieldLink RX4 9 "BlockCard$Queue" "places" "[I", .fieldLink RX4 15 "BlockCard$Queue" "contents" "[I", .fieldLink RX4 22 "BlockCard$Queue" "ticksOfFirst" "I"] ++ wsX40)
def wsX4_firstHasBegun : List Cond := .code yX4_firstHasBegun cX4_firstHasBegun 1 (some .boolean) :: ([.fieldLink RX4 18 "BlockCard$Queue" "size" "I", .fieldLink RX4 22 "BlockCard$Queue" "ticksOfFirst" "I"] ++ wsX40)
def wsX4_tickFirst : List Cond := .code yX4_tickFirst cX4_tickFirst 1 none :: ([.fieldLink RX4 22 "BlockCard$Queue" "ticksOfFirst" "I"] ++ wsX40)
def wsX4_dropFirst : List Cond := .code yX4_dropFirst cX4_dropFirst 2 none :: ([.fieldLink RX4 18 "BlockCard$Queue" "size" "I", .fieldLink RX4 9 "BlockCard$Queue" "places" "[I", .fieldLink RX4 15 "BlockCard$Queue" "contents" "[I", .methodLink RX4 25 Lib.Math.max.name, .static Lib.Math.max.name, .initialized "java/lang/Math", .code Lib.Math.max.name Lib.Math.max.code 2 (some .int), .fieldLink RX4 22 "BlockCard$Queue" "ticksOfFirst" "I"] ++ wsX40)
def wsX5_init : List Cond := .code yX5_init cX5_init 1 none :: ([.methodLink RX5 1 objectInit, .instanceMethod objectInit, .code objectInit ⟨#[0xb1]⟩ 1 none])
def wsX5_clear : List Cond := .code yX5_clear cX5_clear 1 none :: ([.fieldLink RX5 7 "BlockCard$Stream" "expected" "I", .fieldLink RX5 13 "BlockCard$Stream" "next" "I", .fieldLink RX5 16 "BlockCard$Stream" "left" "I", .fieldLink RX5 19 "BlockCard$Stream" "counted" "Z", .fieldLink RX5 23 "BlockCard$Stream" "wrong" "Z"] ++ wsX50)
def wsX5_expect : List Cond := .code yX5_expect cX5_expect 2 none :: ([.fieldLink RX5 7 "BlockCard$Stream" "expected" "I"] ++ wsX50)
def wsX5_begin : List Cond := .code yX5_begin cX5_begin 3 none :: ([.fieldLink RX5 13 "BlockCard$Stream" "next" "I", .fieldLink RX5 7 "BlockCard$Stream" "expected" "I", .fieldLink RX5 16 "BlockCard$Stream" "left" "I", .fieldLink RX5 19 "BlockCard$Stream" "counted" "Z", .fieldLink RX5 23 "BlockCard$Stream" "wrong" "Z"] ++ wsX50)
def wsX5_next : List Cond := .code yX5_next cX5_next 1 (some .int) :: ([.fieldLink RX5 13 "BlockCard$Stream" "next" "I"] ++ wsX50)
def wsX5_advance : List Cond := .code yX5_advance cX5_advance 1 none :: ([.fieldLink RX5 13 "BlockCard$Stream" "next" "I", .fieldLink RX5 16 "BlockCard$Stream" "left" "I"] ++ wsX50)
def wsX5_isCounted : List Cond := .code yX5_isCounted cX5_isCounted 1 (some .boolean) :: ([.fieldLink RX5 19 "BlockCard$Stream" "counted" "Z"] ++ wsX50)
def wsX5_left : List Cond := .code yX5_left cX5_left 1 (some .int) :: ([.fieldLink RX5 16 "BlockCard$Stream" "left" "I"] ++ wsX50)
def wsX5_isComplete : List Cond := .code yX5_isComplete cX5_isComplete 1 (some .boolean) :: ([.fieldLink RX5 19 "BlockCard$Stream" "counted" "Z", .fieldLink RX5 16 "BlockCard$Stream" "left" "I"] ++ wsX50)
def wsX5_isWrong : List Cond := .code yX5_isWrong cX5_isWrong 1 (some .boolean) :: ([.fieldLink RX5 23 "BlockCard$Stream" "wrong" "Z"] ++ wsX50)
def wsX5_spoil : List Cond := .code yX5_spoil cX5_spoil 1 none :: ([.fieldLink RX5 23 "BlockCard$Stream" "wrong" "Z"] ++ wsX50)
def wsX6_goDark_r1 : List Cond := [Cond.fieldLink RX6 111 "BlockCard" "state" "I", Cond.fieldLink RX6 185 "BlockCard" "address" "I", Cond.fieldLink RX6 201 "BlockCard" "notes" "I", Cond.fieldLink RX6 244 "BlockCard" "woken" "I", Cond.fieldLink RX6 197 "BlockCard" "locked" "Z", Cond.fieldLink RX6 52 "BlockCard" "link" "LBlockCard$Link;", Cond.fieldLink RX6 31 "BlockCard" "queue" "LBlockCard$Queue;", Cond.fieldLink RX6 38 "BlockCard" "eraser" "LBlockCard$Eraser;", Cond.fieldLink RX6 45 "BlockCard" "stream" "LBlockCard$Stream;", Cond.methodLink RX6 247 yX2_clear, Cond.instanceMethod yX2_clear, Cond.selects RX2 yX2_clear yX2_clear, Cond.initialized RX2, Cond.code yX2_clear cX2_clear 1 none, Cond.fieldLink RX2 9 "BlockCard$Link" "lines" "I", Cond.fieldLink RX2 15 "BlockCard$Link" "speed" "I", Cond.fieldLink RX2 18 "BlockCard$Link" "point" "I", Cond.methodLink RX6 249 yX4_clear, Cond.instanceMethod yX4_clear, Cond.selects RX4 yX4_clear yX4_clear, Cond.initialized RX4, Cond.code yX4_clear cX4_clear 1 none, Cond.fieldLink RX4 18 "BlockCard$Queue" "size" "I", Cond.fieldLink RX4 22 "BlockCard$Queue" "ticksOfFirst" "I"]
def wsX6_goDark_r2 : List Cond := [Cond.methodLink RX6 250 yX0_clear, Cond.instanceMethod yX0_clear, Cond.selects RX0 yX0_clear yX0_clear, Cond.initialized RX0, Cond.code yX0_clear cX0_clear 1 none, Cond.fieldLink RX0 14 "BlockCard$Eraser" "lowest" "I", Cond.fieldLink RX0 18 "BlockCard$Eraser" "left" "I", Cond.fieldLink RX0 21 "BlockCard$Eraser" "ticksOfLowest" "I", Cond.methodLink RX0 9 yX0_forget, Cond.instanceMethod yX0_forget, Cond.selects RX0 yX0_forget yX0_forget, Cond.code yX0_forget cX0_forget 1 none, Cond.fieldLink RX0 24 "BlockCard$Eraser" "begun" "I", Cond.fieldLink RX0 27 "BlockCard$Eraser" "from" "I", Cond.fieldLink RX0 30 "BlockCard$Eraser" "to" "I", Cond.methodLink RX6 251 yX5_clear, Cond.instanceMethod yX5_clear, Cond.selects RX5 yX5_clear yX5_clear, Cond.initialized RX5, Cond.code yX5_clear cX5_clear 1 none, Cond.fieldLink RX5 7 "BlockCard$Stream" "expected" "I", Cond.fieldLink RX5 13 "BlockCard$Stream" "next" "I", Cond.fieldLink RX5 16 "BlockCard$Stream" "left" "I", Cond.fieldLink RX5 19 "BlockCard$Stream" "counted" "Z"]
def wsX6_goDark_r3 : List Cond := [Cond.fieldLink RX5 23 "BlockCard$Stream" "wrong" "Z"]
def wsX6_goDark : List Cond := .code yX6_goDark cX6_goDark 1 none :: ((wsX6_goDark_r1 ++ (wsX6_goDark_r2 ++ wsX6_goDark_r3)) ++ wsX60 ++ wsX20 ++ wsX40 ++ wsX00 ++ wsX50)
def wsX6_renew_r1 : List Cond := [Cond.fieldLink RX6 235 "BlockCard" "idleness" "I", Cond.fieldLink RX6 238 "BlockCard" "number" "I", Cond.fieldLink RX6 10 "BlockCard" "memory" "LBlockCard$Memory;", Cond.fieldLink RX6 25 "BlockCard" "secret" "LBlockCard$Letters;", Cond.fieldLink RX6 204 "BlockCard" "well" "I", Cond.fieldLink RX6 153 "BlockCard" "ticks" "I", Cond.methodLink RX6 241 yX3_clear, Cond.instanceMethod yX3_clear, Cond.selects RX3 yX3_clear yX3_clear, Cond.initialized RX3, Cond.code yX3_clear cX3_clear 4 none, Cond.methodLink RX3 22 Lib.Math.min.name, Cond.static Lib.Math.min.name, Cond.initialized "java/lang/Math", Cond.code Lib.Math.min.name Lib.Math.min.code 2 (some .int), Cond.methodLink RX3 28 Lib.Math.max.name, Cond.static Lib.Math.max.name, Cond.code Lib.Math.max.name Lib.Math.max.code 2 (some .int), Cond.fieldLink RX3 31 "BlockCard$Memory" "size" "I", Cond.fieldLink RX3 35 "BlockCard$Memory" "groupSize" "I", Cond.fieldLink RX3 38 "BlockCard$Memory" "writtenCount" "I", Cond.fieldLink RX3 9 "BlockCard$Memory" "contents" "[I", Cond.constant RX3 41 (65535), Cond.fieldLink RX3 15 "BlockCard$Memory" "torn" "[Z"]
def wsX6_renew_r2 : List Cond := [Cond.methodLink RX6 90 yX1_empty, Cond.instanceMethod yX1_empty, Cond.selects RX1 yX1_empty yX1_empty, Cond.initialized RX1, Cond.code yX1_empty cX1_empty 1 none, Cond.fieldLink RX1 21 "BlockCard$Letters" "length" "I", Cond.methodLink RX6 75 yX6_goDark, Cond.instanceMethod yX6_goDark, Cond.selects RX6 yX6_goDark yX6_goDark, Cond.initialized RX6, Cond.code yX6_goDark cX6_goDark 1 none, Cond.fieldLink RX6 111 "BlockCard" "state" "I", Cond.fieldLink RX6 185 "BlockCard" "address" "I", Cond.fieldLink RX6 201 "BlockCard" "notes" "I", Cond.fieldLink RX6 244 "BlockCard" "woken" "I", Cond.fieldLink RX6 197 "BlockCard" "locked" "Z", Cond.fieldLink RX6 52 "BlockCard" "link" "LBlockCard$Link;", Cond.fieldLink RX6 31 "BlockCard" "queue" "LBlockCard$Queue;", Cond.fieldLink RX6 38 "BlockCard" "eraser" "LBlockCard$Eraser;", Cond.fieldLink RX6 45 "BlockCard" "stream" "LBlockCard$Stream;", Cond.methodLink RX6 247 yX2_clear, Cond.instanceMethod yX2_clear, Cond.selects RX2 yX2_clear yX2_clear, Cond.initialized RX2]
def wsX6_renew_r3 : List Cond := [Cond.code yX2_clear cX2_clear 1 none, Cond.fieldLink RX2 9 "BlockCard$Link" "lines" "I", Cond.fieldLink RX2 15 "BlockCard$Link" "speed" "I", Cond.fieldLink RX2 18 "BlockCard$Link" "point" "I", Cond.methodLink RX6 249 yX4_clear, Cond.instanceMethod yX4_clear, Cond.selects RX4 yX4_clear yX4_clear, Cond.initialized RX4, Cond.code yX4_clear cX4_clear 1 none, Cond.fieldLink RX4 18 "BlockCard$Queue" "size" "I", Cond.fieldLink RX4 22 "BlockCard$Queue" "ticksOfFirst" "I", Cond.methodLink RX6 250 yX0_clear, Cond.instanceMethod yX0_clear, Cond.selects RX0 yX0_clear yX0_clear, Cond.initialized RX0, Cond.code yX0_clear cX0_clear 1 none, Cond.fieldLink RX0 14 "BlockCard$Eraser" "lowest" "I", Cond.fieldLink RX0 18 "BlockCard$Eraser" "left" "I", Cond.fieldLink RX0 21 "BlockCard$Eraser" "ticksOfLowest" "I", Cond.methodLink RX0 9 yX0_forget, Cond.instanceMethod yX0_forget, Cond.selects RX0 yX0_forget yX0_forget, Cond.code yX0_forget cX0_forget 1 none, Cond.fieldLink RX0 24 "BlockCard$Eraser" "begun" "I"]
def wsX6_renew_r4 : List Cond := [Cond.fieldLink RX0 27 "BlockCard$Eraser" "from" "I", Cond.fieldLink RX0 30 "BlockCard$Eraser" "to" "I", Cond.methodLink RX6 251 yX5_clear, Cond.instanceMethod yX5_clear, Cond.selects RX5 yX5_clear yX5_clear, Cond.initialized RX5, Cond.code yX5_clear cX5_clear 1 none, Cond.fieldLink RX5 7 "BlockCard$Stream" "expected" "I", Cond.fieldLink RX5 13 "BlockCard$Stream" "next" "I", Cond.fieldLink RX5 16 "BlockCard$Stream" "left" "I", Cond.fieldLink RX5 19 "BlockCard$Stream" "counted" "Z", Cond.fieldLink RX5 23 "BlockCard$Stream" "wrong" "Z"]
def wsX6_renew : List Cond := .code yX6_renew cX6_renew 5 none :: ((wsX6_renew_r1 ++ (wsX6_renew_r2 ++ (wsX6_renew_r3 ++ wsX6_renew_r4))) ++ wsX60 ++ wsX30 ++ wsX10 ++ wsX20 ++ wsX40 ++ wsX00 ++ wsX50)
def wsX6_init_r1 : List Cond := [Cond.methodLink RX6 1 objectInit, Cond.instanceMethod objectInit, Cond.code objectInit ⟨#[0xb1]⟩ 1 none, Cond.classLink RX6 7 RX3, Cond.instantiable RX3 6, Cond.initialized RX3, Cond.fieldLink RX6 10 "BlockCard" "memory" "LBlockCard$Memory;", Cond.classLink RX6 16 RX1, Cond.instantiable RX1 2, Cond.initialized RX1, Cond.fieldLink RX6 21 "BlockCard" "text" "LBlockCard$Letters;", Cond.fieldLink RX6 25 "BlockCard" "secret" "LBlockCard$Letters;", Cond.classLink RX6 28 RX4, Cond.instantiable RX4 4, Cond.initialized RX4, Cond.fieldLink RX6 31 "BlockCard" "queue" "LBlockCard$Queue;", Cond.classLink RX6 35 RX0, Cond.instantiable RX0 6, Cond.initialized RX0, Cond.fieldLink RX6 38 "BlockCard" "eraser" "LBlockCard$Eraser;", Cond.classLink RX6 42 RX5, Cond.instantiable RX5 5, Cond.initialized RX5, Cond.fieldLink RX6 45 "BlockCard" "stream" "LBlockCard$Stream;"]
def wsX6_init_r2 : List Cond := [Cond.classLink RX6 49 RX2, Cond.instantiable RX2 3, Cond.initialized RX2, Cond.fieldLink RX6 52 "BlockCard" "link" "LBlockCard$Link;", Cond.instanceMethod yX3_init, Cond.code yX3_init cX3_init 1 none, Cond.methodLink RX3 3 objectInit, Cond.arrayClass .int, Cond.fieldLink RX3 9 "BlockCard$Memory" "contents" "[I", Cond.arrayClass .boolean, Cond.fieldLink RX3 15 "BlockCard$Memory" "torn" "[Z", Cond.fieldLink RX3 19 "BlockCard$Memory" "written" "[I", Cond.methodLink RX6 18 yX1_init, Cond.instanceMethod yX1_init, Cond.code yX1_init cX1_init 2 none, Cond.methodLink RX1 3 objectInit, Cond.methodLink RX1 9 Lib.Math.max.name, Cond.static Lib.Math.max.name, Cond.initialized "java/lang/Math", Cond.code Lib.Math.max.name Lib.Math.max.code 2 (some .int), Cond.fieldLink RX1 15 "BlockCard$Letters" "signs" "[I", Cond.instanceMethod yX4_init, Cond.code yX4_init cX4_init 1 none, Cond.methodLink RX4 3 objectInit]
def wsX6_init_r3 : List Cond := [Cond.fieldLink RX4 9 "BlockCard$Queue" "places" "[I", Cond.fieldLink RX4 15 "BlockCard$Queue" "contents" "[I", Cond.instanceMethod yX0_init, Cond.code yX0_init cX0_init 1 none, Cond.methodLink RX0 3 objectInit, Cond.instanceMethod yX5_init, Cond.code yX5_init cX5_init 1 none, Cond.methodLink RX5 1 objectInit, Cond.instanceMethod yX2_init, Cond.code yX2_init cX2_init 1 none, Cond.methodLink RX2 3 objectInit, Cond.methodLink RX6 56 yX6_renew, Cond.instanceMethod yX6_renew, Cond.selects RX6 yX6_renew yX6_renew, Cond.initialized RX6, Cond.code yX6_renew cX6_renew 5 none, Cond.fieldLink RX6 235 "BlockCard" "idleness" "I", Cond.fieldLink RX6 238 "BlockCard" "number" "I", Cond.fieldLink RX6 204 "BlockCard" "well" "I", Cond.fieldLink RX6 153 "BlockCard" "ticks" "I", Cond.methodLink RX6 241 yX3_clear, Cond.instanceMethod yX3_clear, Cond.selects RX3 yX3_clear yX3_clear, Cond.code yX3_clear cX3_clear 4 none]
def wsX6_init_r4 : List Cond := [Cond.methodLink RX3 22 Lib.Math.min.name, Cond.static Lib.Math.min.name, Cond.code Lib.Math.min.name Lib.Math.min.code 2 (some .int), Cond.methodLink RX3 28 Lib.Math.max.name, Cond.fieldLink RX3 31 "BlockCard$Memory" "size" "I", Cond.fieldLink RX3 35 "BlockCard$Memory" "groupSize" "I", Cond.fieldLink RX3 38 "BlockCard$Memory" "writtenCount" "I", Cond.constant RX3 41 (65535), Cond.methodLink RX6 90 yX1_empty, Cond.instanceMethod yX1_empty, Cond.selects RX1 yX1_empty yX1_empty, Cond.code yX1_empty cX1_empty 1 none, Cond.fieldLink RX1 21 "BlockCard$Letters" "length" "I", Cond.methodLink RX6 75 yX6_goDark, Cond.instanceMethod yX6_goDark, Cond.selects RX6 yX6_goDark yX6_goDark, Cond.code yX6_goDark cX6_goDark 1 none, Cond.fieldLink RX6 111 "BlockCard" "state" "I", Cond.fieldLink RX6 185 "BlockCard" "address" "I", Cond.fieldLink RX6 201 "BlockCard" "notes" "I", Cond.fieldLink RX6 244 "BlockCard" "woken" "I", Cond.fieldLink RX6 197 "BlockCard" "locked" "Z", Cond.methodLink RX6 247 yX2_clear, Cond.instanceMethod yX2_clear]
def wsX6_init_r5 : List Cond := [Cond.selects RX2 yX2_clear yX2_clear, Cond.code yX2_clear cX2_clear 1 none, Cond.fieldLink RX2 9 "BlockCard$Link" "lines" "I", Cond.fieldLink RX2 15 "BlockCard$Link" "speed" "I", Cond.fieldLink RX2 18 "BlockCard$Link" "point" "I", Cond.methodLink RX6 249 yX4_clear, Cond.instanceMethod yX4_clear, Cond.selects RX4 yX4_clear yX4_clear, Cond.code yX4_clear cX4_clear 1 none, Cond.fieldLink RX4 18 "BlockCard$Queue" "size" "I", Cond.fieldLink RX4 22 "BlockCard$Queue" "ticksOfFirst" "I", Cond.methodLink RX6 250 yX0_clear, Cond.instanceMethod yX0_clear, Cond.selects RX0 yX0_clear yX0_clear, Cond.code yX0_clear cX0_clear 1 none, Cond.fieldLink RX0 14 "BlockCard$Eraser" "lowest" "I", Cond.fieldLink RX0 18 "BlockCard$Eraser" "left" "I", Cond.fieldLink RX0 21 "BlockCard$Eraser" "ticksOfLowest" "I", Cond.methodLink RX0 9 yX0_forget, Cond.instanceMethod yX0_forget, Cond.selects RX0 yX0_forget yX0_forget, Cond.code yX0_forget cX0_forget 1 none, Cond.fieldLink RX0 24 "BlockCard$Eraser" "begun" "I", Cond.fieldLink RX0 27 "BlockCard$Eraser" "from" "I"]
def wsX6_init_r6 : List Cond := [Cond.fieldLink RX0 30 "BlockCard$Eraser" "to" "I", Cond.methodLink RX6 251 yX5_clear, Cond.instanceMethod yX5_clear, Cond.selects RX5 yX5_clear yX5_clear, Cond.code yX5_clear cX5_clear 1 none, Cond.fieldLink RX5 7 "BlockCard$Stream" "expected" "I", Cond.fieldLink RX5 13 "BlockCard$Stream" "next" "I", Cond.fieldLink RX5 16 "BlockCard$Stream" "left" "I", Cond.fieldLink RX5 19 "BlockCard$Stream" "counted" "Z", Cond.fieldLink RX5 23 "BlockCard$Stream" "wrong" "Z"]
def wsX6_init : List Cond := .code yX6_init cX6_init 1 none :: ((wsX6_init_r1 ++ (wsX6_init_r2 ++ (wsX6_init_r3 ++ (wsX6_init_r4 ++ (wsX6_init_r5 ++ wsX6_init_r6))))) ++ wsX30 ++ wsX60 ++ wsX10 ++ wsX40 ++ wsX00 ++ wsX50 ++ wsX20)
def wsX6_isOutside : List Cond := .code yX6_isOutside cX6_isOutside 3 (some .boolean) :: ([])
def wsX6_make_r1 : List Cond := [Cond.constant RX6 64 (65535), Cond.methodLink RX6 60 yX6_isOutside, Cond.static yX6_isOutside, Cond.initialized RX6, Cond.code yX6_isOutside cX6_isOutside 3 (some .boolean), Cond.methodLink RX6 56 yX6_renew, Cond.instanceMethod yX6_renew, Cond.selects RX6 yX6_renew yX6_renew, Cond.code yX6_renew cX6_renew 5 none, Cond.fieldLink RX6 235 "BlockCard" "idleness" "I", Cond.fieldLink RX6 238 "BlockCard" "number" "I", Cond.fieldLink RX6 10 "BlockCard" "memory" "LBlockCard$Memory;", Cond.fieldLink RX6 25 "BlockCard" "secret" "LBlockCard$Letters;", Cond.fieldLink RX6 204 "BlockCard" "well" "I", Cond.fieldLink RX6 153 "BlockCard" "ticks" "I", Cond.methodLink RX6 241 yX3_clear, Cond.instanceMethod yX3_clear, Cond.selects RX3 yX3_clear yX3_clear, Cond.initialized RX3, Cond.code yX3_clear cX3_clear 4 none, Cond.methodLink RX3 22 Lib.Math.min.name, Cond.static Lib.Math.min.name, Cond.initialized "java/lang/Math", Cond.code Lib.Math.min.name Lib.Math.min.code 2 (some .int)]
def wsX6_make_r2 : List Cond := [Cond.methodLink RX3 28 Lib.Math.max.name, Cond.static Lib.Math.max.name, Cond.code Lib.Math.max.name Lib.Math.max.code 2 (some .int), Cond.fieldLink RX3 31 "BlockCard$Memory" "size" "I", Cond.fieldLink RX3 35 "BlockCard$Memory" "groupSize" "I", Cond.fieldLink RX3 38 "BlockCard$Memory" "writtenCount" "I", Cond.fieldLink RX3 9 "BlockCard$Memory" "contents" "[I", Cond.constant RX3 41 (65535), Cond.fieldLink RX3 15 "BlockCard$Memory" "torn" "[Z", Cond.methodLink RX6 90 yX1_empty, Cond.instanceMethod yX1_empty, Cond.selects RX1 yX1_empty yX1_empty, Cond.initialized RX1, Cond.code yX1_empty cX1_empty 1 none, Cond.fieldLink RX1 21 "BlockCard$Letters" "length" "I", Cond.methodLink RX6 75 yX6_goDark, Cond.instanceMethod yX6_goDark, Cond.selects RX6 yX6_goDark yX6_goDark, Cond.code yX6_goDark cX6_goDark 1 none, Cond.fieldLink RX6 111 "BlockCard" "state" "I", Cond.fieldLink RX6 185 "BlockCard" "address" "I", Cond.fieldLink RX6 201 "BlockCard" "notes" "I", Cond.fieldLink RX6 244 "BlockCard" "woken" "I", Cond.fieldLink RX6 197 "BlockCard" "locked" "Z"]
def wsX6_make_r3 : List Cond := [Cond.fieldLink RX6 52 "BlockCard" "link" "LBlockCard$Link;", Cond.fieldLink RX6 31 "BlockCard" "queue" "LBlockCard$Queue;", Cond.fieldLink RX6 38 "BlockCard" "eraser" "LBlockCard$Eraser;", Cond.fieldLink RX6 45 "BlockCard" "stream" "LBlockCard$Stream;", Cond.methodLink RX6 247 yX2_clear, Cond.instanceMethod yX2_clear, Cond.selects RX2 yX2_clear yX2_clear, Cond.initialized RX2, Cond.code yX2_clear cX2_clear 1 none, Cond.fieldLink RX2 9 "BlockCard$Link" "lines" "I", Cond.fieldLink RX2 15 "BlockCard$Link" "speed" "I", Cond.fieldLink RX2 18 "BlockCard$Link" "point" "I", Cond.methodLink RX6 249 yX4_clear, Cond.instanceMethod yX4_clear, Cond.selects RX4 yX4_clear yX4_clear, Cond.initialized RX4, Cond.code yX4_clear cX4_clear 1 none, Cond.fieldLink RX4 18 "BlockCard$Queue" "size" "I", Cond.fieldLink RX4 22 "BlockCard$Queue" "ticksOfFirst" "I", Cond.methodLink RX6 250 yX0_clear, Cond.instanceMethod yX0_clear, Cond.selects RX0 yX0_clear yX0_clear, Cond.initialized RX0, Cond.code yX0_clear cX0_clear 1 none]
def wsX6_make_r4 : List Cond := [Cond.fieldLink RX0 14 "BlockCard$Eraser" "lowest" "I", Cond.fieldLink RX0 18 "BlockCard$Eraser" "left" "I", Cond.fieldLink RX0 21 "BlockCard$Eraser" "ticksOfLowest" "I", Cond.methodLink RX0 9 yX0_forget, Cond.instanceMethod yX0_forget, Cond.selects RX0 yX0_forget yX0_forget, Cond.code yX0_forget cX0_forget 1 none, Cond.fieldLink RX0 24 "BlockCard$Eraser" "begun" "I", Cond.fieldLink RX0 27 "BlockCard$Eraser" "from" "I", Cond.fieldLink RX0 30 "BlockCard$Eraser" "to" "I", Cond.methodLink RX6 251 yX5_clear, Cond.instanceMethod yX5_clear, Cond.selects RX5 yX5_clear yX5_clear, Cond.initialized RX5, Cond.code yX5_clear cX5_clear 1 none, Cond.fieldLink RX5 7 "BlockCard$Stream" "expected" "I", Cond.fieldLink RX5 13 "BlockCard$Stream" "next" "I", Cond.fieldLink RX5 16 "BlockCard$Stream" "left" "I", Cond.fieldLink RX5 19 "BlockCard$Stream" "counted" "Z", Cond.fieldLink RX5 23 "BlockCard$Stream" "wrong" "Z"]
def wsX6_make : List Cond := .code yX6_make cX6_make 5 (some .int) :: ((wsX6_make_r1 ++ (wsX6_make_r2 ++ (wsX6_make_r3 ++ wsX6_make_r4))) ++ wsX60 ++ wsX30 ++ wsX10 ++ wsX20 ++ wsX40 ++ wsX00 ++ wsX50)
def wsX6_isPowered : List Cond := .code yX6_isPowered cX6_isPowered 1 (some .boolean) :: ([.fieldLink RX6 111 "BlockCard" "state" "I"] ++ wsX60)
def wsX6_start_r1 : List Cond := [Cond.fieldLink RX6 111 "BlockCard" "state" "I", Cond.fieldLink RX6 25 "BlockCard" "secret" "LBlockCard$Letters;", Cond.fieldLink RX6 197 "BlockCard" "locked" "Z", Cond.methodLink RX6 75 yX6_goDark, Cond.instanceMethod yX6_goDark, Cond.selects RX6 yX6_goDark yX6_goDark, Cond.initialized RX6, Cond.code yX6_goDark cX6_goDark 1 none, Cond.fieldLink RX6 185 "BlockCard" "address" "I", Cond.fieldLink RX6 201 "BlockCard" "notes" "I", Cond.fieldLink RX6 244 "BlockCard" "woken" "I", Cond.fieldLink RX6 52 "BlockCard" "link" "LBlockCard$Link;", Cond.fieldLink RX6 31 "BlockCard" "queue" "LBlockCard$Queue;", Cond.fieldLink RX6 38 "BlockCard" "eraser" "LBlockCard$Eraser;", Cond.fieldLink RX6 45 "BlockCard" "stream" "LBlockCard$Stream;", Cond.methodLink RX6 247 yX2_clear, Cond.instanceMethod yX2_clear, Cond.selects RX2 yX2_clear yX2_clear, Cond.initialized RX2, Cond.code yX2_clear cX2_clear 1 none, Cond.fieldLink RX2 9 "BlockCard$Link" "lines" "I", Cond.fieldLink RX2 15 "BlockCard$Link" "speed" "I", Cond.fieldLink RX2 18 "BlockCard$Link" "point" "I", Cond.methodLink RX6 249 yX4_clear]
def wsX6_start_r2 : List Cond := [Cond.instanceMethod yX4_clear, Cond.selects RX4 yX4_clear yX4_clear, Cond.initialized RX4, Cond.code yX4_clear cX4_clear 1 none, Cond.fieldLink RX4 18 "BlockCard$Queue" "size" "I", Cond.fieldLink RX4 22 "BlockCard$Queue" "ticksOfFirst" "I", Cond.methodLink RX6 250 yX0_clear, Cond.instanceMethod yX0_clear, Cond.selects RX0 yX0_clear yX0_clear, Cond.initialized RX0, Cond.code yX0_clear cX0_clear 1 none, Cond.fieldLink RX0 14 "BlockCard$Eraser" "lowest" "I", Cond.fieldLink RX0 18 "BlockCard$Eraser" "left" "I", Cond.fieldLink RX0 21 "BlockCard$Eraser" "ticksOfLowest" "I", Cond.methodLink RX0 9 yX0_forget, Cond.instanceMethod yX0_forget, Cond.selects RX0 yX0_forget yX0_forget, Cond.code yX0_forget cX0_forget 1 none, Cond.fieldLink RX0 24 "BlockCard$Eraser" "begun" "I", Cond.fieldLink RX0 27 "BlockCard$Eraser" "from" "I", Cond.fieldLink RX0 30 "BlockCard$Eraser" "to" "I", Cond.methodLink RX6 251 yX5_clear, Cond.instanceMethod yX5_clear, Cond.selects RX5 yX5_clear yX5_clear]
def wsX6_start_r3 : List Cond := [Cond.initialized RX5, Cond.code yX5_clear cX5_clear 1 none, Cond.fieldLink RX5 7 "BlockCard$Stream" "expected" "I", Cond.fieldLink RX5 13 "BlockCard$Stream" "next" "I", Cond.fieldLink RX5 16 "BlockCard$Stream" "left" "I", Cond.fieldLink RX5 19 "BlockCard$Stream" "counted" "Z", Cond.fieldLink RX5 23 "BlockCard$Stream" "wrong" "Z", Cond.methodLink RX6 86 yX1_length, Cond.instanceMethod yX1_length, Cond.selects RX1 yX1_length yX1_length, Cond.initialized RX1, Cond.code yX1_length cX1_length 1 (some .int), Cond.fieldLink RX1 21 "BlockCard$Letters" "length" "I"]
def wsX6_start : List Cond := .code yX6_start cX6_start 1 none :: ((wsX6_start_r1 ++ (wsX6_start_r2 ++ wsX6_start_r3)) ++ wsX60 ++ wsX20 ++ wsX40 ++ wsX00 ++ wsX50 ++ wsX10)
def wsX6_tearUnfinished_r1 : List Cond := [Cond.fieldLink RX6 31 "BlockCard" "queue" "LBlockCard$Queue;", Cond.fieldLink RX6 10 "BlockCard" "memory" "LBlockCard$Memory;", Cond.fieldLink RX6 38 "BlockCard" "eraser" "LBlockCard$Eraser;", Cond.methodLink RX6 252 yX4_firstHasBegun, Cond.instanceMethod yX4_firstHasBegun, Cond.selects RX4 yX4_firstHasBegun yX4_firstHasBegun, Cond.initialized RX4, Cond.code yX4_firstHasBegun cX4_firstHasBegun 1 (some .boolean), Cond.fieldLink RX4 18 "BlockCard$Queue" "size" "I", Cond.fieldLink RX4 22 "BlockCard$Queue" "ticksOfFirst" "I", Cond.methodLink RX6 178 yX4_tellOf, Cond.instanceMethod yX4_tellOf, Cond.selects RX4 yX4_tellOf yX4_tellOf, Cond.code yX4_tellOf cX4_tellOf 3 (some .int), Cond.fieldLink RX4 9 "BlockCard$Queue" "places" "[I", Cond.fieldLink RX4 15 "BlockCard$Queue" "contents" "[I", Cond.methodLink RX6 255 yX3_tear, Cond.instanceMethod yX3_tear, Cond.selects RX3 yX3_tear yX3_tear, Cond.initialized RX3, Cond.code yX3_tear cX3_tear 2 none, Cond.methodLink RX3 54 yX3_blank, Cond.instanceMethod yX3_blank, Cond.selects RX3 yX3_blank yX3_blank]
def wsX6_tearUnfinished_r2 : List Cond := [Cond.code yX3_blank cX3_blank 6 none, Cond.fieldLink RX3 31 "BlockCard$Memory" "size" "I", Cond.methodLink RX3 22 Lib.Math.min.name, Cond.static Lib.Math.min.name, Cond.initialized "java/lang/Math", Cond.code Lib.Math.min.name Lib.Math.min.code 2 (some .int), Cond.methodLink RX3 28 Lib.Math.max.name, Cond.static Lib.Math.max.name, Cond.code Lib.Math.max.name Lib.Math.max.code 2 (some .int), Cond.fieldLink RX3 9 "BlockCard$Memory" "contents" "[I", Cond.constant RX3 41 (65535), Cond.fieldLink RX3 15 "BlockCard$Memory" "torn" "[Z", Cond.methodLink RX3 46 yX3_dropWritten, Cond.instanceMethod yX3_dropWritten, Cond.selects RX3 yX3_dropWritten yX3_dropWritten, Cond.code yX3_dropWritten cX3_dropWritten 5 none, Cond.fieldLink RX3 38 "BlockCard$Memory" "writtenCount" "I", Cond.fieldLink RX3 19 "BlockCard$Memory" "written" "[I", Cond.methodLink RX6 258 yX0_groupHasBegun, Cond.instanceMethod yX0_groupHasBegun, Cond.selects RX0 yX0_groupHasBegun yX0_groupHasBegun, Cond.initialized RX0, Cond.code yX0_groupHasBegun cX0_groupHasBegun 1 (some .boolean), Cond.fieldLink RX0 18 "BlockCard$Eraser" "left" "I"]
def wsX6_tearUnfinished_r3 : List Cond := [Cond.fieldLink RX0 21 "BlockCard$Eraser" "ticksOfLowest" "I", Cond.methodLink RX6 261 yX0_group, Cond.instanceMethod yX0_group, Cond.selects RX0 yX0_group yX0_group, Cond.code yX0_group cX0_group 1 (some .int), Cond.fieldLink RX0 14 "BlockCard$Eraser" "lowest" "I", Cond.methodLink RX6 264 yX3_tearGroup, Cond.instanceMethod yX3_tearGroup, Cond.selects RX3 yX3_tearGroup yX3_tearGroup, Cond.code yX3_tearGroup cX3_tearGroup 2 none, Cond.fieldLink RX3 35 "BlockCard$Memory" "groupSize" "I"]
def wsX6_tearUnfinished : List Cond := .code yX6_tearUnfinished cX6_tearUnfinished 1 none :: ((wsX6_tearUnfinished_r1 ++ (wsX6_tearUnfinished_r2 ++ wsX6_tearUnfinished_r3)) ++ wsX60 ++ wsX40 ++ wsX30 ++ wsX00)
def wsX6_power_r1 : List Cond := [Cond.methodLink RX6 60 yX6_isOutside, Cond.static yX6_isOutside, Cond.initialized RX6, Cond.code yX6_isOutside cX6_isOutside 3 (some .boolean), Cond.methodLink RX6 65 yX6_isPowered, Cond.instanceMethod yX6_isPowered, Cond.selects RX6 yX6_isPowered yX6_isPowered, Cond.code yX6_isPowered cX6_isPowered 1 (some .boolean), Cond.fieldLink RX6 111 "BlockCard" "state" "I", Cond.methodLink RX6 69 yX6_start, Cond.instanceMethod yX6_start, Cond.selects RX6 yX6_start yX6_start, Cond.code yX6_start cX6_start 1 none, Cond.fieldLink RX6 25 "BlockCard" "secret" "LBlockCard$Letters;", Cond.fieldLink RX6 197 "BlockCard" "locked" "Z", Cond.methodLink RX6 75 yX6_goDark, Cond.instanceMethod yX6_goDark, Cond.selects RX6 yX6_goDark yX6_goDark, Cond.code yX6_goDark cX6_goDark 1 none, Cond.fieldLink RX6 185 "BlockCard" "address" "I", Cond.fieldLink RX6 201 "BlockCard" "notes" "I", Cond.fieldLink RX6 244 "BlockCard" "woken" "I", Cond.fieldLink RX6 52 "BlockCard" "link" "LBlockCard$Link;", Cond.fieldLink RX6 31 "BlockCard" "queue" "LBlockCard$Queue;"]
def wsX6_power_r2 : List Cond := [Cond.fieldLink RX6 38 "BlockCard" "eraser" "LBlockCard$Eraser;", Cond.fieldLink RX6 45 "BlockCard" "stream" "LBlockCard$Stream;", Cond.methodLink RX6 247 yX2_clear, Cond.instanceMethod yX2_clear, Cond.selects RX2 yX2_clear yX2_clear, Cond.initialized RX2, Cond.code yX2_clear cX2_clear 1 none, Cond.fieldLink RX2 9 "BlockCard$Link" "lines" "I", Cond.fieldLink RX2 15 "BlockCard$Link" "speed" "I", Cond.fieldLink RX2 18 "BlockCard$Link" "point" "I", Cond.methodLink RX6 249 yX4_clear, Cond.instanceMethod yX4_clear, Cond.selects RX4 yX4_clear yX4_clear, Cond.initialized RX4, Cond.code yX4_clear cX4_clear 1 none, Cond.fieldLink RX4 18 "BlockCard$Queue" "size" "I", Cond.fieldLink RX4 22 "BlockCard$Queue" "ticksOfFirst" "I", Cond.methodLink RX6 250 yX0_clear, Cond.instanceMethod yX0_clear, Cond.selects RX0 yX0_clear yX0_clear, Cond.initialized RX0, Cond.code yX0_clear cX0_clear 1 none, Cond.fieldLink RX0 14 "BlockCard$Eraser" "lowest" "I", Cond.fieldLink RX0 18 "BlockCard$Eraser" "left" "I"]
def wsX6_power_r3 : List Cond := [Cond.fieldLink RX0 21 "BlockCard$Eraser" "ticksOfLowest" "I", Cond.methodLink RX0 9 yX0_forget, Cond.instanceMethod yX0_forget, Cond.selects RX0 yX0_forget yX0_forget, Cond.code yX0_forget cX0_forget 1 none, Cond.fieldLink RX0 24 "BlockCard$Eraser" "begun" "I", Cond.fieldLink RX0 27 "BlockCard$Eraser" "from" "I", Cond.fieldLink RX0 30 "BlockCard$Eraser" "to" "I", Cond.methodLink RX6 251 yX5_clear, Cond.instanceMethod yX5_clear, Cond.selects RX5 yX5_clear yX5_clear, Cond.initialized RX5, Cond.code yX5_clear cX5_clear 1 none, Cond.fieldLink RX5 7 "BlockCard$Stream" "expected" "I", Cond.fieldLink RX5 13 "BlockCard$Stream" "next" "I", Cond.fieldLink RX5 16 "BlockCard$Stream" "left" "I", Cond.fieldLink RX5 19 "BlockCard$Stream" "counted" "Z", Cond.fieldLink RX5 23 "BlockCard$Stream" "wrong" "Z", Cond.methodLink RX6 86 yX1_length, Cond.instanceMethod yX1_length, Cond.selects RX1 yX1_length yX1_length, Cond.initialized RX1, Cond.code yX1_length cX1_length 1 (some .int), Cond.fieldLink RX1 21 "BlockCard$Letters" "length" "I"]
def wsX6_power_r4 : List Cond := [Cond.methodLink RX6 72 yX6_tearUnfinished, Cond.instanceMethod yX6_tearUnfinished, Cond.selects RX6 yX6_tearUnfinished yX6_tearUnfinished, Cond.code yX6_tearUnfinished cX6_tearUnfinished 1 none, Cond.fieldLink RX6 10 "BlockCard" "memory" "LBlockCard$Memory;", Cond.methodLink RX6 252 yX4_firstHasBegun, Cond.instanceMethod yX4_firstHasBegun, Cond.selects RX4 yX4_firstHasBegun yX4_firstHasBegun, Cond.code yX4_firstHasBegun cX4_firstHasBegun 1 (some .boolean), Cond.methodLink RX6 178 yX4_tellOf, Cond.instanceMethod yX4_tellOf, Cond.selects RX4 yX4_tellOf yX4_tellOf, Cond.code yX4_tellOf cX4_tellOf 3 (some .int), Cond.fieldLink RX4 9 "BlockCard$Queue" "places" "[I", Cond.fieldLink RX4 15 "BlockCard$Queue" "contents" "[I", Cond.methodLink RX6 255 yX3_tear, Cond.instanceMethod yX3_tear, Cond.selects RX3 yX3_tear yX3_tear, Cond.initialized RX3, Cond.code yX3_tear cX3_tear 2 none, Cond.methodLink RX3 54 yX3_blank, Cond.instanceMethod yX3_blank, Cond.selects RX3 yX3_blank yX3_blank, Cond.code yX3_blank cX3_blank 6 none]
def wsX6_power_r5 : List Cond := [Cond.fieldLink RX3 31 "BlockCard$Memory" "size" "I", Cond.methodLink RX3 22 Lib.Math.min.name, Cond.static Lib.Math.min.name, Cond.initialized "java/lang/Math", Cond.code Lib.Math.min.name Lib.Math.min.code 2 (some .int), Cond.methodLink RX3 28 Lib.Math.max.name, Cond.static Lib.Math.max.name, Cond.code Lib.Math.max.name Lib.Math.max.code 2 (some .int), Cond.fieldLink RX3 9 "BlockCard$Memory" "contents" "[I", Cond.constant RX3 41 (65535), Cond.fieldLink RX3 15 "BlockCard$Memory" "torn" "[Z", Cond.methodLink RX3 46 yX3_dropWritten, Cond.instanceMethod yX3_dropWritten, Cond.selects RX3 yX3_dropWritten yX3_dropWritten, Cond.code yX3_dropWritten cX3_dropWritten 5 none, Cond.fieldLink RX3 38 "BlockCard$Memory" "writtenCount" "I", Cond.fieldLink RX3 19 "BlockCard$Memory" "written" "[I", Cond.methodLink RX6 258 yX0_groupHasBegun, Cond.instanceMethod yX0_groupHasBegun, Cond.selects RX0 yX0_groupHasBegun yX0_groupHasBegun, Cond.code yX0_groupHasBegun cX0_groupHasBegun 1 (some .boolean), Cond.methodLink RX6 261 yX0_group, Cond.instanceMethod yX0_group, Cond.selects RX0 yX0_group yX0_group]
def wsX6_power_r6 : List Cond := [Cond.code yX0_group cX0_group 1 (some .int), Cond.methodLink RX6 264 yX3_tearGroup, Cond.instanceMethod yX3_tearGroup, Cond.selects RX3 yX3_tearGroup yX3_tearGroup, Cond.code yX3_tearGroup cX3_tearGroup 2 none, Cond.fieldLink RX3 35 "BlockCard$Memory" "groupSize" "I"]
def wsX6_power : List Cond := .code yX6_power cX6_power 2 (some .int) :: ((wsX6_power_r1 ++ (wsX6_power_r2 ++ (wsX6_power_r3 ++ (wsX6_power_r4 ++ (wsX6_power_r5 ++ wsX6_power_r6))))) ++ wsX60 ++ wsX20 ++ wsX40 ++ wsX00 ++ wsX50 ++ wsX10 ++ wsX30)
def wsX6_warm : List Cond := .code yX6_warm cX6_warm 3 (some .int) :: ([.fieldLink RX6 78 "BlockCard" "heat" "I", .methodLink RX6 60 yX6_isOutside, .static yX6_isOutside, .initialized RX6, .code yX6_isOutside cX6_isOutside 3 (some .boolean)] ++ wsX60)
def wsX6_write : List Cond := .code yX6_write cX6_write 2 (some .int) :: ([.fieldLink RX6 21 "BlockCard" "text" "LBlockCard$Letters;", .methodLink RX6 60 yX6_isOutside, .static yX6_isOutside, .initialized RX6, .code yX6_isOutside cX6_isOutside 3 (some .boolean), .methodLink RX6 82 yX1_append, .instanceMethod yX1_append, .selects RX1 yX1_append yX1_append, .initialized RX1, .code yX1_append cX1_append 2 (some .boolean), .fieldLink RX1 21 "BlockCard$Letters" "length" "I", .fieldLink RX1 15 "BlockCard$Letters" "signs" "[I", .methodLink RX6 86 yX1_length, .instanceMethod yX1_length, .selects RX1 yX1_length yX1_length, .code yX1_length cX1_length 1 (some .int)] ++ wsX60 ++ wsX10)
def wsX6_wipe : List Cond := .code yX6_wipe cX6_wipe 2 (some .int) :: ([.fieldLink RX6 21 "BlockCard" "text" "LBlockCard$Letters;", .methodLink RX6 86 yX1_length, .instanceMethod yX1_length, .selects RX1 yX1_length yX1_length, .initialized RX1, .code yX1_length cX1_length 1 (some .int), .fieldLink RX1 21 "BlockCard$Letters" "length" "I", .methodLink RX6 90 yX1_empty, .instanceMethod yX1_empty, .selects RX1 yX1_empty yX1_empty, .code yX1_empty cX1_empty 1 none] ++ wsX60 ++ wsX10)
def wsX6_isNoCommand : List Cond := .code yX6_isNoCommand cX6_isNoCommand 2 (some .boolean) :: ([.constant RX6 64 (65535), .methodLink RX6 60 yX6_isOutside, .static yX6_isOutside, .initialized RX6, .code yX6_isOutside cX6_isOutside 3 (some .boolean)])
def wsX6_checkOfBits : List Cond := .code yX6_checkOfBits cX6_checkOfBits 5 (some .int) :: ([])
def wsX6_commandCheck : List Cond := .code yX6_commandCheck cX6_commandCheck 2 (some .int) :: ([.constant RX6 225 (65536), .methodLink RX6 226 yX6_checkOfBits, .static yX6_checkOfBits, .initialized RX6, .code yX6_checkOfBits cX6_checkOfBits 5 (some .int)])
def wsX6_check : List Cond := .code yX6_check cX6_check 3 (some .int) :: ([.methodLink RX6 93 yX6_isNoCommand, .static yX6_isNoCommand, .initialized RX6, .code yX6_isNoCommand cX6_isNoCommand 2 (some .boolean), .constant RX6 64 (65535), .methodLink RX6 60 yX6_isOutside, .static yX6_isOutside, .code yX6_isOutside cX6_isOutside 3 (some .boolean), .methodLink RX6 97 yX6_commandCheck, .static yX6_commandCheck, .code yX6_commandCheck cX6_commandCheck 2 (some .int), .constant RX6 225 (65536), .methodLink RX6 226 yX6_checkOfBits, .static yX6_checkOfBits, .code yX6_checkOfBits cX6_checkOfBits 5 (some .int)])
def wsX6_contentCheck : List Cond := .code yX6_contentCheck cX6_contentCheck 1 (some .int) :: ([.methodLink RX6 226 yX6_checkOfBits, .static yX6_checkOfBits, .initialized RX6, .code yX6_checkOfBits cX6_checkOfBits 5 (some .int)])
def wsX6_checkOf : List Cond := .code yX6_checkOf cX6_checkOf 2 (some .int) :: ([.constant RX6 64 (65535), .methodLink RX6 60 yX6_isOutside, .static yX6_isOutside, .initialized RX6, .code yX6_isOutside cX6_isOutside 3 (some .boolean), .methodLink RX6 101 yX6_contentCheck, .static yX6_contentCheck, .code yX6_contentCheck cX6_contentCheck 1 (some .int), .methodLink RX6 226 yX6_checkOfBits, .static yX6_checkOfBits, .code yX6_checkOfBits cX6_checkOfBits 5 (some .int)])
def wsX6_note : List Cond := .code yX6_note cX6_note 2 none :: ([.fieldLink RX6 201 "BlockCard" "notes" "I"] ++ wsX60)
def wsX6_isBarredByLock : List Cond := .code yX6_isBarredByLock cX6_isBarredByLock 1 (some .boolean) :: ([])
def wsX6_statesOf : List Cond := .code yX6_statesOf cX6_statesOf 1 (some .int) :: ([.methodLink RX6 229 yX6_isBarredByLock, .static yX6_isBarredByLock, .initialized RX6, .code yX6_isBarredByLock cX6_isBarredByLock 1 (some .boolean)])
def wsX6_isOpenTo : List Cond := .code yX6_isOpenTo cX6_isOpenTo 2 (some .boolean) :: ([.fieldLink RX6 197 "BlockCard" "locked" "Z", .fieldLink RX6 111 "BlockCard" "state" "I", .methodLink RX6 229 yX6_isBarredByLock, .static yX6_isBarredByLock, .initialized RX6, .code yX6_isBarredByLock cX6_isBarredByLock 1 (some .boolean), .methodLink RX6 276 yX6_statesOf, .static yX6_statesOf, .code yX6_statesOf cX6_statesOf 1 (some .int)] ++ wsX60)
def wsX6_hears_r1 : List Cond := [Cond.fieldLink RX6 38 "BlockCard" "eraser" "LBlockCard$Eraser;", Cond.methodLink RX6 65 yX6_isPowered, Cond.instanceMethod yX6_isPowered, Cond.selects RX6 yX6_isPowered yX6_isPowered, Cond.initialized RX6, Cond.code yX6_isPowered cX6_isPowered 1 (some .boolean), Cond.fieldLink RX6 111 "BlockCard" "state" "I", Cond.methodLink RX6 97 yX6_commandCheck, Cond.static yX6_commandCheck, Cond.code yX6_commandCheck cX6_commandCheck 2 (some .int), Cond.constant RX6 225 (65536), Cond.methodLink RX6 226 yX6_checkOfBits, Cond.static yX6_checkOfBits, Cond.code yX6_checkOfBits cX6_checkOfBits 5 (some .int), Cond.methodLink RX6 135 yX6_note, Cond.instanceMethod yX6_note, Cond.selects RX6 yX6_note yX6_note, Cond.code yX6_note cX6_note 2 none, Cond.fieldLink RX6 201 "BlockCard" "notes" "I", Cond.methodLink RX6 267 yX6_isOpenTo, Cond.instanceMethod yX6_isOpenTo, Cond.selects RX6 yX6_isOpenTo yX6_isOpenTo, Cond.code yX6_isOpenTo cX6_isOpenTo 2 (some .boolean), Cond.fieldLink RX6 197 "BlockCard" "locked" "Z"]
def wsX6_hears_r2 : List Cond := [Cond.methodLink RX6 229 yX6_isBarredByLock, Cond.static yX6_isBarredByLock, Cond.code yX6_isBarredByLock cX6_isBarredByLock 1 (some .boolean), Cond.methodLink RX6 276 yX6_statesOf, Cond.static yX6_statesOf, Cond.code yX6_statesOf cX6_statesOf 1 (some .int), Cond.methodLink RX6 270 yX0_isBrokenOffBy, Cond.instanceMethod yX0_isBrokenOffBy, Cond.selects RX0 yX0_isBrokenOffBy yX0_isBrokenOffBy, Cond.initialized RX0, Cond.code yX0_isBrokenOffBy cX0_isBrokenOffBy 3 (some .boolean), Cond.fieldLink RX0 24 "BlockCard$Eraser" "begun" "I", Cond.methodLink RX6 273 yX0_forget, Cond.instanceMethod yX0_forget, Cond.selects RX0 yX0_forget yX0_forget, Cond.code yX0_forget cX0_forget 1 none, Cond.fieldLink RX0 27 "BlockCard$Eraser" "from" "I", Cond.fieldLink RX0 30 "BlockCard$Eraser" "to" "I"]
def wsX6_hears : List Cond := .code yX6_hears cX6_hears 4 (some .boolean) :: ((wsX6_hears_r1 ++ wsX6_hears_r2) ++ wsX60 ++ wsX00)
def wsX6_reset_r1 : List Cond := [Cond.methodLink RX6 72 yX6_tearUnfinished, Cond.instanceMethod yX6_tearUnfinished, Cond.selects RX6 yX6_tearUnfinished yX6_tearUnfinished, Cond.initialized RX6, Cond.code yX6_tearUnfinished cX6_tearUnfinished 1 none, Cond.fieldLink RX6 31 "BlockCard" "queue" "LBlockCard$Queue;", Cond.fieldLink RX6 10 "BlockCard" "memory" "LBlockCard$Memory;", Cond.fieldLink RX6 38 "BlockCard" "eraser" "LBlockCard$Eraser;", Cond.methodLink RX6 252 yX4_firstHasBegun, Cond.instanceMethod yX4_firstHasBegun, Cond.selects RX4 yX4_firstHasBegun yX4_firstHasBegun, Cond.initialized RX4, Cond.code yX4_firstHasBegun cX4_firstHasBegun 1 (some .boolean), Cond.fieldLink RX4 18 "BlockCard$Queue" "size" "I", Cond.fieldLink RX4 22 "BlockCard$Queue" "ticksOfFirst" "I", Cond.methodLink RX6 178 yX4_tellOf, Cond.instanceMethod yX4_tellOf, Cond.selects RX4 yX4_tellOf yX4_tellOf, Cond.code yX4_tellOf cX4_tellOf 3 (some .int), Cond.fieldLink RX4 9 "BlockCard$Queue" "places" "[I", Cond.fieldLink RX4 15 "BlockCard$Queue" "contents" "[I", Cond.methodLink RX6 255 yX3_tear, Cond.instanceMethod yX3_tear, Cond.selects RX3 yX3_tear yX3_tear]
def wsX6_reset_r2 : List Cond := [Cond.initialized RX3, Cond.code yX3_tear cX3_tear 2 none, Cond.methodLink RX3 54 yX3_blank, Cond.instanceMethod yX3_blank, Cond.selects RX3 yX3_blank yX3_blank, Cond.code yX3_blank cX3_blank 6 none, Cond.fieldLink RX3 31 "BlockCard$Memory" "size" "I", Cond.methodLink RX3 22 Lib.Math.min.name, Cond.static Lib.Math.min.name, Cond.initialized "java/lang/Math", Cond.code Lib.Math.min.name Lib.Math.min.code 2 (some .int), Cond.methodLink RX3 28 Lib.Math.max.name, Cond.static Lib.Math.max.name, Cond.code Lib.Math.max.name Lib.Math.max.code 2 (some .int), Cond.fieldLink RX3 9 "BlockCard$Memory" "contents" "[I", Cond.constant RX3 41 (65535), Cond.fieldLink RX3 15 "BlockCard$Memory" "torn" "[Z", Cond.methodLink RX3 46 yX3_dropWritten, Cond.instanceMethod yX3_dropWritten, Cond.selects RX3 yX3_dropWritten yX3_dropWritten, Cond.code yX3_dropWritten cX3_dropWritten 5 none, Cond.fieldLink RX3 38 "BlockCard$Memory" "writtenCount" "I", Cond.fieldLink RX3 19 "BlockCard$Memory" "written" "[I", Cond.methodLink RX6 258 yX0_groupHasBegun]
def wsX6_reset_r3 : List Cond := [Cond.instanceMethod yX0_groupHasBegun, Cond.selects RX0 yX0_groupHasBegun yX0_groupHasBegun, Cond.initialized RX0, Cond.code yX0_groupHasBegun cX0_groupHasBegun 1 (some .boolean), Cond.fieldLink RX0 18 "BlockCard$Eraser" "left" "I", Cond.fieldLink RX0 21 "BlockCard$Eraser" "ticksOfLowest" "I", Cond.methodLink RX6 261 yX0_group, Cond.instanceMethod yX0_group, Cond.selects RX0 yX0_group yX0_group, Cond.code yX0_group cX0_group 1 (some .int), Cond.fieldLink RX0 14 "BlockCard$Eraser" "lowest" "I", Cond.methodLink RX6 264 yX3_tearGroup, Cond.instanceMethod yX3_tearGroup, Cond.selects RX3 yX3_tearGroup yX3_tearGroup, Cond.code yX3_tearGroup cX3_tearGroup 2 none, Cond.fieldLink RX3 35 "BlockCard$Memory" "groupSize" "I", Cond.methodLink RX6 69 yX6_start, Cond.instanceMethod yX6_start, Cond.selects RX6 yX6_start yX6_start, Cond.code yX6_start cX6_start 1 none, Cond.fieldLink RX6 111 "BlockCard" "state" "I", Cond.fieldLink RX6 25 "BlockCard" "secret" "LBlockCard$Letters;", Cond.fieldLink RX6 197 "BlockCard" "locked" "Z", Cond.methodLink RX6 75 yX6_goDark]
def wsX6_reset_r4 : List Cond := [Cond.instanceMethod yX6_goDark, Cond.selects RX6 yX6_goDark yX6_goDark, Cond.code yX6_goDark cX6_goDark 1 none, Cond.fieldLink RX6 185 "BlockCard" "address" "I", Cond.fieldLink RX6 201 "BlockCard" "notes" "I", Cond.fieldLink RX6 244 "BlockCard" "woken" "I", Cond.fieldLink RX6 52 "BlockCard" "link" "LBlockCard$Link;", Cond.fieldLink RX6 45 "BlockCard" "stream" "LBlockCard$Stream;", Cond.methodLink RX6 247 yX2_clear, Cond.instanceMethod yX2_clear, Cond.selects RX2 yX2_clear yX2_clear, Cond.initialized RX2, Cond.code yX2_clear cX2_clear 1 none, Cond.fieldLink RX2 9 "BlockCard$Link" "lines" "I", Cond.fieldLink RX2 15 "BlockCard$Link" "speed" "I", Cond.fieldLink RX2 18 "BlockCard$Link" "point" "I", Cond.methodLink RX6 249 yX4_clear, Cond.instanceMethod yX4_clear, Cond.selects RX4 yX4_clear yX4_clear, Cond.code yX4_clear cX4_clear 1 none, Cond.methodLink RX6 250 yX0_clear, Cond.instanceMethod yX0_clear, Cond.selects RX0 yX0_clear yX0_clear, Cond.code yX0_clear cX0_clear 1 none]
def wsX6_reset_r5 : List Cond := [Cond.methodLink RX0 9 yX0_forget, Cond.instanceMethod yX0_forget, Cond.selects RX0 yX0_forget yX0_forget, Cond.code yX0_forget cX0_forget 1 none, Cond.fieldLink RX0 24 "BlockCard$Eraser" "begun" "I", Cond.fieldLink RX0 27 "BlockCard$Eraser" "from" "I", Cond.fieldLink RX0 30 "BlockCard$Eraser" "to" "I", Cond.methodLink RX6 251 yX5_clear, Cond.instanceMethod yX5_clear, Cond.selects RX5 yX5_clear yX5_clear, Cond.initialized RX5, Cond.code yX5_clear cX5_clear 1 none, Cond.fieldLink RX5 7 "BlockCard$Stream" "expected" "I", Cond.fieldLink RX5 13 "BlockCard$Stream" "next" "I", Cond.fieldLink RX5 16 "BlockCard$Stream" "left" "I", Cond.fieldLink RX5 19 "BlockCard$Stream" "counted" "Z", Cond.fieldLink RX5 23 "BlockCard$Stream" "wrong" "Z", Cond.methodLink RX6 86 yX1_length, Cond.instanceMethod yX1_length, Cond.selects RX1 yX1_length yX1_length, Cond.initialized RX1, Cond.code yX1_length cX1_length 1 (some .int), Cond.fieldLink RX1 21 "BlockCard$Letters" "length" "I"]
def wsX6_reset : List Cond := .code yX6_reset cX6_reset 1 (some .int) :: ((wsX6_reset_r1 ++ (wsX6_reset_r2 ++ (wsX6_reset_r3 ++ (wsX6_reset_r4 ++ wsX6_reset_r5)))) ++ wsX60 ++ wsX40 ++ wsX30 ++ wsX00 ++ wsX20 ++ wsX50 ++ wsX10)
def wsX6_wake : List Cond := .code yX6_wake cX6_wake 1 (some .int) :: ([.fieldLink RX6 244 "BlockCard" "woken" "I", .fieldLink RX6 235 "BlockCard" "idleness" "I", .fieldLink RX6 111 "BlockCard" "state" "I"] ++ wsX60)
def wsX6_tellNumber : List Cond := .code yX6_tellNumber cX6_tellNumber 1 (some .int) :: ([.fieldLink RX6 111 "BlockCard" "state" "I", .fieldLink RX6 238 "BlockCard" "number" "I"] ++ wsX60)
def wsX6_takeAddress : List Cond := .code yX6_takeAddress cX6_takeAddress 1 (some .int) :: ([.fieldLink RX6 185 "BlockCard" "address" "I", .fieldLink RX6 111 "BlockCard" "state" "I"] ++ wsX60)
def wsX6_choose : List Cond := .code yX6_choose cX6_choose 3 (some .int) :: ([.fieldLink RX6 185 "BlockCard" "address" "I", .fieldLink RX6 111 "BlockCard" "state" "I"] ++ wsX60)
def wsX6_tellStatus : List Cond := .code yX6_tellStatus cX6_tellStatus 3 (some .int) :: ([.fieldLink RX6 185 "BlockCard" "address" "I", .fieldLink RX6 111 "BlockCard" "state" "I", .fieldLink RX6 197 "BlockCard" "locked" "Z", .fieldLink RX6 201 "BlockCard" "notes" "I", .methodLink RX6 162 yX6_asNumber, .static yX6_asNumber, .initialized RX6, .code yX6_asNumber cX6_asNumber 1 (some .int)] ++ wsX60)
def wsX6_switchLines : List Cond := .code yX6_switchLines cX6_switchLines 2 (some .int) :: ([.fieldLink RX6 52 "BlockCard" "link" "LBlockCard$Link;", .methodLink RX6 325 yX2_change, .instanceMethod yX2_change, .selects RX2 yX2_change yX2_change, .initialized RX2, .code yX2_change cX2_change 3 (some .boolean), .fieldLink RX2 15 "BlockCard$Link" "speed" "I", .fieldLink RX2 9 "BlockCard$Link" "lines" "I", .methodLink RX6 135 yX6_note, .instanceMethod yX6_note, .selects RX6 yX6_note yX6_note, .initialized RX6, .code yX6_note cX6_note 2 none, .fieldLink RX6 201 "BlockCard" "notes" "I", .methodLink RX6 191 yX2_speed, .instanceMethod yX2_speed, .selects RX2 yX2_speed yX2_speed, .code yX2_speed cX2_speed 1 (some .int), .methodLink RX6 188 yX2_lines, .instanceMethod yX2_lines, .selects RX2 yX2_lines yX2_lines, .code yX2_lines cX2_lines 1 (some .int)] ++ wsX60 ++ wsX20)
def wsX6_movePoint_r1 : List Cond := [Cond.fieldLink RX6 52 "BlockCard" "link" "LBlockCard$Link;", Cond.fieldLink RX6 78 "BlockCard" "heat" "I", Cond.methodLink RX6 328 yX2_look, Cond.instanceMethod yX2_look, Cond.selects RX2 yX2_look yX2_look, Cond.initialized RX2, Cond.code yX2_look cX2_look 2 none, Cond.fieldLink RX2 18 "BlockCard$Link" "point" "I", Cond.methodLink RX6 132 yX2_isInWindow, Cond.instanceMethod yX2_isInWindow, Cond.selects RX2 yX2_isInWindow yX2_isInWindow, Cond.code yX2_isInWindow cX2_isInWindow 5 (some .boolean), Cond.fieldLink RX2 15 "BlockCard$Link" "speed" "I", Cond.methodLink RX2 27 Lib.Math.min.name, Cond.static Lib.Math.min.name, Cond.initialized "java/lang/Math", Cond.code Lib.Math.min.name Lib.Math.min.code 2 (some .int), Cond.methodLink RX2 21 yJ9_floorMod_7cf53, Cond.static yJ9_floorMod_7cf53, Cond.initialized RJ9, Cond.code yJ9_floorMod_7cf53 cJ9_floorMod_7cf53 3 (some .int), Cond.methodLink RX6 162 yX6_asNumber, Cond.static yX6_asNumber, Cond.initialized RX6]
def wsX6_movePoint_r2 : List Cond := [Cond.code yX6_asNumber cX6_asNumber 1 (some .int)]
def wsX6_movePoint : List Cond := .code yX6_movePoint cX6_movePoint 2 (some .int) :: ((wsX6_movePoint_r1 ++ wsX6_movePoint_r2) ++ wsX60 ++ wsX20)
def wsX6_expect : List Cond := .code yX6_expect cX6_expect 2 (some .int) :: ([.fieldLink RX6 45 "BlockCard" "stream" "LBlockCard$Stream;", .methodLink RX6 331 yX5_expect, .instanceMethod yX5_expect, .selects RX5 yX5_expect yX5_expect, .initialized RX5, .code yX5_expect cX5_expect 2 none, .fieldLink RX5 7 "BlockCard$Stream" "expected" "I"] ++ wsX60 ++ wsX50)
def wsX6_refuse : List Cond := .code yX6_refuse cX6_refuse 2 (some .int) :: ([.methodLink RX6 135 yX6_note, .instanceMethod yX6_note, .selects RX6 yX6_note yX6_note, .initialized RX6, .code yX6_note cX6_note 2 none, .fieldLink RX6 201 "BlockCard" "notes" "I"] ++ wsX60)
def wsX6_beginStream_r1 : List Cond := [Cond.fieldLink RX6 10 "BlockCard" "memory" "LBlockCard$Memory;", Cond.fieldLink RX6 45 "BlockCard" "stream" "LBlockCard$Stream;", Cond.fieldLink RX6 111 "BlockCard" "state" "I", Cond.fieldLink RX6 204 "BlockCard" "well" "I", Cond.methodLink RX6 123 yX3_has, Cond.instanceMethod yX3_has, Cond.selects RX3 yX3_has yX3_has, Cond.initialized RX3, Cond.code yX3_has cX3_has 2 (some .boolean), Cond.fieldLink RX3 31 "BlockCard$Memory" "size" "I", Cond.methodLink RX6 126 yX6_refuse, Cond.instanceMethod yX6_refuse, Cond.selects RX6 yX6_refuse yX6_refuse, Cond.initialized RX6, Cond.code yX6_refuse cX6_refuse 2 (some .int), Cond.methodLink RX6 135 yX6_note, Cond.instanceMethod yX6_note, Cond.selects RX6 yX6_note yX6_note, Cond.code yX6_note cX6_note 2 none, Cond.fieldLink RX6 201 "BlockCard" "notes" "I", Cond.methodLink RX6 333 yX5_begin, Cond.instanceMethod yX5_begin, Cond.selects RX5 yX5_begin yX5_begin, Cond.initialized RX5]
def wsX6_beginStream_r2 : List Cond := [Cond.code yX5_begin cX5_begin 3 none, Cond.fieldLink RX5 13 "BlockCard$Stream" "next" "I", Cond.fieldLink RX5 7 "BlockCard$Stream" "expected" "I", Cond.fieldLink RX5 16 "BlockCard$Stream" "left" "I", Cond.fieldLink RX5 19 "BlockCard$Stream" "counted" "Z", Cond.fieldLink RX5 23 "BlockCard$Stream" "wrong" "Z"]
def wsX6_beginStream : List Cond := .code yX6_beginStream cX6_beginStream 4 (some .int) :: ((wsX6_beginStream_r1 ++ wsX6_beginStream_r2) ++ wsX60 ++ wsX30 ++ wsX50)
def wsX6_stop : List Cond := .code yX6_stop cX6_stop 2 (some .int) :: ([.fieldLink RX6 31 "BlockCard" "queue" "LBlockCard$Queue;", .fieldLink RX6 111 "BlockCard" "state" "I", .methodLink RX6 175 yX4_size, .instanceMethod yX4_size, .selects RX4 yX4_size yX4_size, .initialized RX4, .code yX4_size cX4_size 1 (some .int), .fieldLink RX4 18 "BlockCard$Queue" "size" "I"] ++ wsX60 ++ wsX40)
def wsX6_eraseFrom_r1 : List Cond := [Cond.fieldLink RX6 10 "BlockCard" "memory" "LBlockCard$Memory;", Cond.fieldLink RX6 38 "BlockCard" "eraser" "LBlockCard$Eraser;", Cond.methodLink RX6 123 yX3_has, Cond.instanceMethod yX3_has, Cond.selects RX3 yX3_has yX3_has, Cond.initialized RX3, Cond.code yX3_has cX3_has 2 (some .boolean), Cond.fieldLink RX3 31 "BlockCard$Memory" "size" "I", Cond.methodLink RX6 126 yX6_refuse, Cond.instanceMethod yX6_refuse, Cond.selects RX6 yX6_refuse yX6_refuse, Cond.initialized RX6, Cond.code yX6_refuse cX6_refuse 2 (some .int), Cond.methodLink RX6 135 yX6_note, Cond.instanceMethod yX6_note, Cond.selects RX6 yX6_note yX6_note, Cond.code yX6_note cX6_note 2 none, Cond.fieldLink RX6 201 "BlockCard" "notes" "I", Cond.methodLink RX6 337 yX0_beginFrom, Cond.instanceMethod yX0_beginFrom, Cond.selects RX0 yX0_beginFrom yX0_beginFrom, Cond.initialized RX0, Cond.code yX0_beginFrom cX0_beginFrom 2 none, Cond.fieldLink RX0 24 "BlockCard$Eraser" "begun" "I"]
def wsX6_eraseFrom_r2 : List Cond := [Cond.fieldLink RX0 27 "BlockCard$Eraser" "from" "I"]
def wsX6_eraseFrom : List Cond := .code yX6_eraseFrom cX6_eraseFrom 2 (some .int) :: ((wsX6_eraseFrom_r1 ++ wsX6_eraseFrom_r2) ++ wsX60 ++ wsX30 ++ wsX00)
def wsX6_eraseTo_r1 : List Cond := [Cond.fieldLink RX6 10 "BlockCard" "memory" "LBlockCard$Memory;", Cond.fieldLink RX6 38 "BlockCard" "eraser" "LBlockCard$Eraser;", Cond.methodLink RX6 123 yX3_has, Cond.instanceMethod yX3_has, Cond.selects RX3 yX3_has yX3_has, Cond.initialized RX3, Cond.code yX3_has cX3_has 2 (some .boolean), Cond.fieldLink RX3 31 "BlockCard$Memory" "size" "I", Cond.methodLink RX6 273 yX0_forget, Cond.instanceMethod yX0_forget, Cond.selects RX0 yX0_forget yX0_forget, Cond.initialized RX0, Cond.code yX0_forget cX0_forget 1 none, Cond.fieldLink RX0 24 "BlockCard$Eraser" "begun" "I", Cond.fieldLink RX0 27 "BlockCard$Eraser" "from" "I", Cond.fieldLink RX0 30 "BlockCard$Eraser" "to" "I", Cond.methodLink RX6 126 yX6_refuse, Cond.instanceMethod yX6_refuse, Cond.selects RX6 yX6_refuse yX6_refuse, Cond.initialized RX6, Cond.code yX6_refuse cX6_refuse 2 (some .int), Cond.methodLink RX6 135 yX6_note, Cond.instanceMethod yX6_note, Cond.selects RX6 yX6_note yX6_note]
def wsX6_eraseTo_r2 : List Cond := [Cond.code yX6_note cX6_note 2 none, Cond.fieldLink RX6 201 "BlockCard" "notes" "I", Cond.methodLink RX6 340 yX0_continueTo, Cond.instanceMethod yX0_continueTo, Cond.selects RX0 yX0_continueTo yX0_continueTo, Cond.code yX0_continueTo cX0_continueTo 2 (some .boolean)]
def wsX6_eraseTo : List Cond := .code yX6_eraseTo cX6_eraseTo 2 (some .int) :: ((wsX6_eraseTo_r1 ++ wsX6_eraseTo_r2) ++ wsX60 ++ wsX30 ++ wsX00)
def wsX6_beginErasing : List Cond := .code yX6_beginErasing cX6_beginErasing 3 (some .int) :: ([.fieldLink RX6 38 "BlockCard" "eraser" "LBlockCard$Eraser;", .fieldLink RX6 111 "BlockCard" "state" "I", .methodLink RX6 355 yX0_begin, .instanceMethod yX0_begin, .selects RX0 yX0_begin yX0_begin, .initialized RX0, .code yX0_begin cX0_begin 3 none, .fieldLink RX0 14 "BlockCard$Eraser" "lowest" "I", .fieldLink RX0 18 "BlockCard$Eraser" "left" "I", .fieldLink RX0 21 "BlockCard$Eraser" "ticksOfLowest" "I", .methodLink RX0 9 yX0_forget, .instanceMethod yX0_forget, .selects RX0 yX0_forget yX0_forget, .code yX0_forget cX0_forget 1 none, .fieldLink RX0 24 "BlockCard$Eraser" "begun" "I", .fieldLink RX0 27 "BlockCard$Eraser" "from" "I", .fieldLink RX0 30 "BlockCard$Eraser" "to" "I", .methodLink RX6 207 yX0_groupsLeft, .instanceMethod yX0_groupsLeft, .selects RX0 yX0_groupsLeft yX0_groupsLeft, .code yX0_groupsLeft cX0_groupsLeft 1 (some .int)] ++ wsX60 ++ wsX00)
def wsX6_erase_r1 : List Cond := [Cond.fieldLink RX6 38 "BlockCard" "eraser" "LBlockCard$Eraser;", Cond.fieldLink RX6 10 "BlockCard" "memory" "LBlockCard$Memory;", Cond.methodLink RX6 343 yX0_isReady, Cond.instanceMethod yX0_isReady, Cond.selects RX0 yX0_isReady yX0_isReady, Cond.initialized RX0, Cond.code yX0_isReady cX0_isReady 1 (some .boolean), Cond.fieldLink RX0 24 "BlockCard$Eraser" "begun" "I", Cond.methodLink RX6 126 yX6_refuse, Cond.instanceMethod yX6_refuse, Cond.selects RX6 yX6_refuse yX6_refuse, Cond.initialized RX6, Cond.code yX6_refuse cX6_refuse 2 (some .int), Cond.methodLink RX6 135 yX6_note, Cond.instanceMethod yX6_note, Cond.selects RX6 yX6_note yX6_note, Cond.code yX6_note cX6_note 2 none, Cond.fieldLink RX6 201 "BlockCard" "notes" "I", Cond.methodLink RX6 346 yX0_from, Cond.instanceMethod yX0_from, Cond.selects RX0 yX0_from yX0_from, Cond.code yX0_from cX0_from 1 (some .int), Cond.fieldLink RX0 27 "BlockCard$Eraser" "from" "I", Cond.methodLink RX6 166 yX3_groupOf]
def wsX6_erase_r2 : List Cond := [Cond.instanceMethod yX3_groupOf, Cond.selects RX3 yX3_groupOf yX3_groupOf, Cond.initialized RX3, Cond.code yX3_groupOf cX3_groupOf 2 (some .int), Cond.fieldLink RX3 35 "BlockCard$Memory" "groupSize" "I", Cond.methodLink RX6 349 yX0_to, Cond.instanceMethod yX0_to, Cond.selects RX0 yX0_to yX0_to, Cond.code yX0_to cX0_to 1 (some .int), Cond.fieldLink RX0 30 "BlockCard$Eraser" "to" "I", Cond.methodLink RX6 352 yX6_beginErasing, Cond.instanceMethod yX6_beginErasing, Cond.selects RX6 yX6_beginErasing yX6_beginErasing, Cond.code yX6_beginErasing cX6_beginErasing 3 (some .int), Cond.fieldLink RX6 111 "BlockCard" "state" "I", Cond.methodLink RX6 355 yX0_begin, Cond.instanceMethod yX0_begin, Cond.selects RX0 yX0_begin yX0_begin, Cond.code yX0_begin cX0_begin 3 none, Cond.fieldLink RX0 14 "BlockCard$Eraser" "lowest" "I", Cond.fieldLink RX0 18 "BlockCard$Eraser" "left" "I", Cond.fieldLink RX0 21 "BlockCard$Eraser" "ticksOfLowest" "I", Cond.methodLink RX0 9 yX0_forget, Cond.instanceMethod yX0_forget]
def wsX6_erase_r3 : List Cond := [Cond.selects RX0 yX0_forget yX0_forget, Cond.code yX0_forget cX0_forget 1 none, Cond.methodLink RX6 207 yX0_groupsLeft, Cond.instanceMethod yX0_groupsLeft, Cond.selects RX0 yX0_groupsLeft yX0_groupsLeft, Cond.code yX0_groupsLeft cX0_groupsLeft 1 (some .int)]
def wsX6_erase : List Cond := .code yX6_erase cX6_erase 1 (some .int) :: ((wsX6_erase_r1 ++ (wsX6_erase_r2 ++ wsX6_erase_r3)) ++ wsX60 ++ wsX00 ++ wsX30)
def wsX6_textIsSecret : List Cond := .code yX6_textIsSecret cX6_textIsSecret 1 (some .boolean) :: ([.fieldLink RX6 25 "BlockCard" "secret" "LBlockCard$Letters;", .fieldLink RX6 21 "BlockCard" "text" "LBlockCard$Letters;", .methodLink RX6 86 yX1_length, .instanceMethod yX1_length, .selects RX1 yX1_length yX1_length, .initialized RX1, .code yX1_length cX1_length 1 (some .int), .fieldLink RX1 21 "BlockCard$Letters" "length" "I", .methodLink RX6 372 yX1_startsWith, .instanceMethod yX1_startsWith, .selects RX1 yX1_startsWith yX1_startsWith, .code yX1_startsWith cX1_startsWith 3 (some .boolean), .methodLink RX1 25 yX1_at, .instanceMethod yX1_at, .selects RX1 yX1_at yX1_at, .code yX1_at cX1_at 2 (some .int), .fieldLink RX1 15 "BlockCard$Letters" "signs" "[I"] ++ wsX60 ++ wsX10)
def wsX6_unlock_r1 : List Cond := [Cond.fieldLink RX6 197 "BlockCard" "locked" "Z", Cond.methodLink RX6 376 yX6_textIsSecret, Cond.instanceMethod yX6_textIsSecret, Cond.selects RX6 yX6_textIsSecret yX6_textIsSecret, Cond.initialized RX6, Cond.code yX6_textIsSecret cX6_textIsSecret 1 (some .boolean), Cond.fieldLink RX6 25 "BlockCard" "secret" "LBlockCard$Letters;", Cond.fieldLink RX6 21 "BlockCard" "text" "LBlockCard$Letters;", Cond.methodLink RX6 86 yX1_length, Cond.instanceMethod yX1_length, Cond.selects RX1 yX1_length yX1_length, Cond.initialized RX1, Cond.code yX1_length cX1_length 1 (some .int), Cond.fieldLink RX1 21 "BlockCard$Letters" "length" "I", Cond.methodLink RX6 372 yX1_startsWith, Cond.instanceMethod yX1_startsWith, Cond.selects RX1 yX1_startsWith yX1_startsWith, Cond.code yX1_startsWith cX1_startsWith 3 (some .boolean), Cond.methodLink RX1 25 yX1_at, Cond.instanceMethod yX1_at, Cond.selects RX1 yX1_at yX1_at, Cond.code yX1_at cX1_at 2 (some .int), Cond.fieldLink RX1 15 "BlockCard$Letters" "signs" "[I", Cond.methodLink RX6 126 yX6_refuse]
def wsX6_unlock_r2 : List Cond := [Cond.instanceMethod yX6_refuse, Cond.selects RX6 yX6_refuse yX6_refuse, Cond.code yX6_refuse cX6_refuse 2 (some .int), Cond.methodLink RX6 135 yX6_note, Cond.instanceMethod yX6_note, Cond.selects RX6 yX6_note yX6_note, Cond.code yX6_note cX6_note 2 none, Cond.fieldLink RX6 201 "BlockCard" "notes" "I"]
def wsX6_unlock : List Cond := .code yX6_unlock cX6_unlock 1 (some .int) :: ((wsX6_unlock_r1 ++ wsX6_unlock_r2) ++ wsX60 ++ wsX10)
def wsX6_setSecret_r1 : List Cond := [Cond.fieldLink RX6 21 "BlockCard" "text" "LBlockCard$Letters;", Cond.fieldLink RX6 25 "BlockCard" "secret" "LBlockCard$Letters;", Cond.fieldLink RX6 197 "BlockCard" "locked" "Z", Cond.methodLink RX6 86 yX1_length, Cond.instanceMethod yX1_length, Cond.selects RX1 yX1_length yX1_length, Cond.initialized RX1, Cond.code yX1_length cX1_length 1 (some .int), Cond.fieldLink RX1 21 "BlockCard$Letters" "length" "I", Cond.methodLink RX6 60 yX6_isOutside, Cond.static yX6_isOutside, Cond.initialized RX6, Cond.code yX6_isOutside cX6_isOutside 3 (some .boolean), Cond.methodLink RX6 372 yX1_startsWith, Cond.instanceMethod yX1_startsWith, Cond.selects RX1 yX1_startsWith yX1_startsWith, Cond.code yX1_startsWith cX1_startsWith 3 (some .boolean), Cond.methodLink RX1 25 yX1_at, Cond.instanceMethod yX1_at, Cond.selects RX1 yX1_at yX1_at, Cond.code yX1_at cX1_at 2 (some .int), Cond.fieldLink RX1 15 "BlockCard$Letters" "signs" "[I", Cond.methodLink RX6 126 yX6_refuse, Cond.instanceMethod yX6_refuse]
def wsX6_setSecret_r2 : List Cond := [Cond.selects RX6 yX6_refuse yX6_refuse, Cond.code yX6_refuse cX6_refuse 2 (some .int), Cond.methodLink RX6 135 yX6_note, Cond.instanceMethod yX6_note, Cond.selects RX6 yX6_note yX6_note, Cond.code yX6_note cX6_note 2 none, Cond.fieldLink RX6 201 "BlockCard" "notes" "I", Cond.methodLink RX6 379 yX1_becomeTail, Cond.instanceMethod yX1_becomeTail, Cond.selects RX1 yX1_becomeTail yX1_becomeTail, Cond.code yX1_becomeTail cX1_becomeTail 4 none, Cond.methodLink RX1 29 yX1_empty, Cond.instanceMethod yX1_empty, Cond.selects RX1 yX1_empty yX1_empty, Cond.code yX1_empty cX1_empty 1 none, Cond.methodLink RX1 32 yX1_append, Cond.instanceMethod yX1_append, Cond.selects RX1 yX1_append yX1_append, Cond.code yX1_append cX1_append 2 (some .boolean)]
def wsX6_setSecret : List Cond := .code yX6_setSecret cX6_setSecret 3 (some .int) :: ((wsX6_setSecret_r1 ++ wsX6_setSecret_r2) ++ wsX60 ++ wsX10)
def wsX6_clearSecret_r1 : List Cond := [Cond.fieldLink RX6 197 "BlockCard" "locked" "Z", Cond.fieldLink RX6 25 "BlockCard" "secret" "LBlockCard$Letters;", Cond.methodLink RX6 376 yX6_textIsSecret, Cond.instanceMethod yX6_textIsSecret, Cond.selects RX6 yX6_textIsSecret yX6_textIsSecret, Cond.initialized RX6, Cond.code yX6_textIsSecret cX6_textIsSecret 1 (some .boolean), Cond.fieldLink RX6 21 "BlockCard" "text" "LBlockCard$Letters;", Cond.methodLink RX6 86 yX1_length, Cond.instanceMethod yX1_length, Cond.selects RX1 yX1_length yX1_length, Cond.initialized RX1, Cond.code yX1_length cX1_length 1 (some .int), Cond.fieldLink RX1 21 "BlockCard$Letters" "length" "I", Cond.methodLink RX6 372 yX1_startsWith, Cond.instanceMethod yX1_startsWith, Cond.selects RX1 yX1_startsWith yX1_startsWith, Cond.code yX1_startsWith cX1_startsWith 3 (some .boolean), Cond.methodLink RX1 25 yX1_at, Cond.instanceMethod yX1_at, Cond.selects RX1 yX1_at yX1_at, Cond.code yX1_at cX1_at 2 (some .int), Cond.fieldLink RX1 15 "BlockCard$Letters" "signs" "[I", Cond.methodLink RX6 126 yX6_refuse]
def wsX6_clearSecret_r2 : List Cond := [Cond.instanceMethod yX6_refuse, Cond.selects RX6 yX6_refuse yX6_refuse, Cond.code yX6_refuse cX6_refuse 2 (some .int), Cond.methodLink RX6 135 yX6_note, Cond.instanceMethod yX6_note, Cond.selects RX6 yX6_note yX6_note, Cond.code yX6_note cX6_note 2 none, Cond.fieldLink RX6 201 "BlockCard" "notes" "I", Cond.methodLink RX6 90 yX1_empty, Cond.instanceMethod yX1_empty, Cond.selects RX1 yX1_empty yX1_empty, Cond.code yX1_empty cX1_empty 1 none]
def wsX6_clearSecret : List Cond := .code yX6_clearSecret cX6_clearSecret 1 (some .int) :: ((wsX6_clearSecret_r1 ++ wsX6_clearSecret_r2) ++ wsX60 ++ wsX10)
def wsX6_lock_r1 : List Cond := [Cond.fieldLink RX6 197 "BlockCard" "locked" "Z", Cond.methodLink RX6 376 yX6_textIsSecret, Cond.instanceMethod yX6_textIsSecret, Cond.selects RX6 yX6_textIsSecret yX6_textIsSecret, Cond.initialized RX6, Cond.code yX6_textIsSecret cX6_textIsSecret 1 (some .boolean), Cond.fieldLink RX6 25 "BlockCard" "secret" "LBlockCard$Letters;", Cond.fieldLink RX6 21 "BlockCard" "text" "LBlockCard$Letters;", Cond.methodLink RX6 86 yX1_length, Cond.instanceMethod yX1_length, Cond.selects RX1 yX1_length yX1_length, Cond.initialized RX1, Cond.code yX1_length cX1_length 1 (some .int), Cond.fieldLink RX1 21 "BlockCard$Letters" "length" "I", Cond.methodLink RX6 372 yX1_startsWith, Cond.instanceMethod yX1_startsWith, Cond.selects RX1 yX1_startsWith yX1_startsWith, Cond.code yX1_startsWith cX1_startsWith 3 (some .boolean), Cond.methodLink RX1 25 yX1_at, Cond.instanceMethod yX1_at, Cond.selects RX1 yX1_at yX1_at, Cond.code yX1_at cX1_at 2 (some .int), Cond.fieldLink RX1 15 "BlockCard$Letters" "signs" "[I", Cond.methodLink RX6 126 yX6_refuse]
def wsX6_lock_r2 : List Cond := [Cond.instanceMethod yX6_refuse, Cond.selects RX6 yX6_refuse yX6_refuse, Cond.code yX6_refuse cX6_refuse 2 (some .int), Cond.methodLink RX6 135 yX6_note, Cond.instanceMethod yX6_note, Cond.selects RX6 yX6_note yX6_note, Cond.code yX6_note cX6_note 2 none, Cond.fieldLink RX6 201 "BlockCard" "notes" "I"]
def wsX6_lock : List Cond := .code yX6_lock cX6_lock 1 (some .int) :: ((wsX6_lock_r1 ++ wsX6_lock_r2) ++ wsX60 ++ wsX10)
def wsX6_force_r1 : List Cond := [Cond.fieldLink RX6 197 "BlockCard" "locked" "Z", Cond.fieldLink RX6 25 "BlockCard" "secret" "LBlockCard$Letters;", Cond.fieldLink RX6 10 "BlockCard" "memory" "LBlockCard$Memory;", Cond.methodLink RX6 126 yX6_refuse, Cond.instanceMethod yX6_refuse, Cond.selects RX6 yX6_refuse yX6_refuse, Cond.initialized RX6, Cond.code yX6_refuse cX6_refuse 2 (some .int), Cond.methodLink RX6 135 yX6_note, Cond.instanceMethod yX6_note, Cond.selects RX6 yX6_note yX6_note, Cond.code yX6_note cX6_note 2 none, Cond.fieldLink RX6 201 "BlockCard" "notes" "I", Cond.methodLink RX6 90 yX1_empty, Cond.instanceMethod yX1_empty, Cond.selects RX1 yX1_empty yX1_empty, Cond.initialized RX1, Cond.code yX1_empty cX1_empty 1 none, Cond.fieldLink RX1 21 "BlockCard$Letters" "length" "I", Cond.methodLink RX6 181 yX3_size, Cond.instanceMethod yX3_size, Cond.selects RX3 yX3_size yX3_size, Cond.initialized RX3, Cond.code yX3_size cX3_size 1 (some .int)]
def wsX6_force_r2 : List Cond := [Cond.fieldLink RX3 31 "BlockCard$Memory" "size" "I", Cond.methodLink RX6 166 yX3_groupOf, Cond.instanceMethod yX3_groupOf, Cond.selects RX3 yX3_groupOf yX3_groupOf, Cond.code yX3_groupOf cX3_groupOf 2 (some .int), Cond.fieldLink RX3 35 "BlockCard$Memory" "groupSize" "I", Cond.methodLink RX6 352 yX6_beginErasing, Cond.instanceMethod yX6_beginErasing, Cond.selects RX6 yX6_beginErasing yX6_beginErasing, Cond.code yX6_beginErasing cX6_beginErasing 3 (some .int), Cond.fieldLink RX6 38 "BlockCard" "eraser" "LBlockCard$Eraser;", Cond.fieldLink RX6 111 "BlockCard" "state" "I", Cond.methodLink RX6 355 yX0_begin, Cond.instanceMethod yX0_begin, Cond.selects RX0 yX0_begin yX0_begin, Cond.initialized RX0, Cond.code yX0_begin cX0_begin 3 none, Cond.fieldLink RX0 14 "BlockCard$Eraser" "lowest" "I", Cond.fieldLink RX0 18 "BlockCard$Eraser" "left" "I", Cond.fieldLink RX0 21 "BlockCard$Eraser" "ticksOfLowest" "I", Cond.methodLink RX0 9 yX0_forget, Cond.instanceMethod yX0_forget, Cond.selects RX0 yX0_forget yX0_forget, Cond.code yX0_forget cX0_forget 1 none]
def wsX6_force_r3 : List Cond := [Cond.fieldLink RX0 24 "BlockCard$Eraser" "begun" "I", Cond.fieldLink RX0 27 "BlockCard$Eraser" "from" "I", Cond.fieldLink RX0 30 "BlockCard$Eraser" "to" "I", Cond.methodLink RX6 207 yX0_groupsLeft, Cond.instanceMethod yX0_groupsLeft, Cond.selects RX0 yX0_groupsLeft yX0_groupsLeft, Cond.code yX0_groupsLeft cX0_groupsLeft 1 (some .int)]
def wsX6_force : List Cond := .code yX6_force cX6_force 1 (some .int) :: ((wsX6_force_r1 ++ (wsX6_force_r2 ++ wsX6_force_r3)) ++ wsX60 ++ wsX10 ++ wsX30 ++ wsX00)
def wsX6_changeLock_r1 : List Cond := [Cond.methodLink RX6 357 yX6_unlock, Cond.instanceMethod yX6_unlock, Cond.selects RX6 yX6_unlock yX6_unlock, Cond.initialized RX6, Cond.code yX6_unlock cX6_unlock 1 (some .int), Cond.fieldLink RX6 197 "BlockCard" "locked" "Z", Cond.methodLink RX6 376 yX6_textIsSecret, Cond.instanceMethod yX6_textIsSecret, Cond.selects RX6 yX6_textIsSecret yX6_textIsSecret, Cond.code yX6_textIsSecret cX6_textIsSecret 1 (some .boolean), Cond.fieldLink RX6 25 "BlockCard" "secret" "LBlockCard$Letters;", Cond.fieldLink RX6 21 "BlockCard" "text" "LBlockCard$Letters;", Cond.methodLink RX6 86 yX1_length, Cond.instanceMethod yX1_length, Cond.selects RX1 yX1_length yX1_length, Cond.initialized RX1, Cond.code yX1_length cX1_length 1 (some .int), Cond.fieldLink RX1 21 "BlockCard$Letters" "length" "I", Cond.methodLink RX6 372 yX1_startsWith, Cond.instanceMethod yX1_startsWith, Cond.selects RX1 yX1_startsWith yX1_startsWith, Cond.code yX1_startsWith cX1_startsWith 3 (some .boolean), Cond.methodLink RX1 25 yX1_at, Cond.instanceMethod yX1_at]
def wsX6_changeLock_r2 : List Cond := [Cond.selects RX1 yX1_at yX1_at, Cond.code yX1_at cX1_at 2 (some .int), Cond.fieldLink RX1 15 "BlockCard$Letters" "signs" "[I", Cond.methodLink RX6 126 yX6_refuse, Cond.instanceMethod yX6_refuse, Cond.selects RX6 yX6_refuse yX6_refuse, Cond.code yX6_refuse cX6_refuse 2 (some .int), Cond.methodLink RX6 135 yX6_note, Cond.instanceMethod yX6_note, Cond.selects RX6 yX6_note yX6_note, Cond.code yX6_note cX6_note 2 none, Cond.fieldLink RX6 201 "BlockCard" "notes" "I", Cond.methodLink RX6 360 yX6_setSecret, Cond.instanceMethod yX6_setSecret, Cond.selects RX6 yX6_setSecret yX6_setSecret, Cond.code yX6_setSecret cX6_setSecret 3 (some .int), Cond.methodLink RX6 60 yX6_isOutside, Cond.static yX6_isOutside, Cond.code yX6_isOutside cX6_isOutside 3 (some .boolean), Cond.methodLink RX6 379 yX1_becomeTail, Cond.instanceMethod yX1_becomeTail, Cond.selects RX1 yX1_becomeTail yX1_becomeTail, Cond.code yX1_becomeTail cX1_becomeTail 4 none, Cond.methodLink RX1 29 yX1_empty]
def wsX6_changeLock_r3 : List Cond := [Cond.instanceMethod yX1_empty, Cond.selects RX1 yX1_empty yX1_empty, Cond.code yX1_empty cX1_empty 1 none, Cond.methodLink RX1 32 yX1_append, Cond.instanceMethod yX1_append, Cond.selects RX1 yX1_append yX1_append, Cond.code yX1_append cX1_append 2 (some .boolean), Cond.methodLink RX6 363 yX6_clearSecret, Cond.instanceMethod yX6_clearSecret, Cond.selects RX6 yX6_clearSecret yX6_clearSecret, Cond.code yX6_clearSecret cX6_clearSecret 1 (some .int), Cond.methodLink RX6 90 yX1_empty, Cond.methodLink RX6 366 yX6_lock, Cond.instanceMethod yX6_lock, Cond.selects RX6 yX6_lock yX6_lock, Cond.code yX6_lock cX6_lock 1 (some .int), Cond.methodLink RX6 369 yX6_force, Cond.instanceMethod yX6_force, Cond.selects RX6 yX6_force yX6_force, Cond.code yX6_force cX6_force 1 (some .int), Cond.fieldLink RX6 10 "BlockCard" "memory" "LBlockCard$Memory;", Cond.methodLink RX6 181 yX3_size, Cond.instanceMethod yX3_size, Cond.selects RX3 yX3_size yX3_size]
def wsX6_changeLock_r4 : List Cond := [Cond.initialized RX3, Cond.code yX3_size cX3_size 1 (some .int), Cond.fieldLink RX3 31 "BlockCard$Memory" "size" "I", Cond.methodLink RX6 166 yX3_groupOf, Cond.instanceMethod yX3_groupOf, Cond.selects RX3 yX3_groupOf yX3_groupOf, Cond.code yX3_groupOf cX3_groupOf 2 (some .int), Cond.fieldLink RX3 35 "BlockCard$Memory" "groupSize" "I", Cond.methodLink RX6 352 yX6_beginErasing, Cond.instanceMethod yX6_beginErasing, Cond.selects RX6 yX6_beginErasing yX6_beginErasing, Cond.code yX6_beginErasing cX6_beginErasing 3 (some .int), Cond.fieldLink RX6 38 "BlockCard" "eraser" "LBlockCard$Eraser;", Cond.fieldLink RX6 111 "BlockCard" "state" "I", Cond.methodLink RX6 355 yX0_begin, Cond.instanceMethod yX0_begin, Cond.selects RX0 yX0_begin yX0_begin, Cond.initialized RX0, Cond.code yX0_begin cX0_begin 3 none, Cond.fieldLink RX0 14 "BlockCard$Eraser" "lowest" "I", Cond.fieldLink RX0 18 "BlockCard$Eraser" "left" "I", Cond.fieldLink RX0 21 "BlockCard$Eraser" "ticksOfLowest" "I", Cond.methodLink RX0 9 yX0_forget, Cond.instanceMethod yX0_forget]
def wsX6_changeLock_r5 : List Cond := [Cond.selects RX0 yX0_forget yX0_forget, Cond.code yX0_forget cX0_forget 1 none, Cond.fieldLink RX0 24 "BlockCard$Eraser" "begun" "I", Cond.fieldLink RX0 27 "BlockCard$Eraser" "from" "I", Cond.fieldLink RX0 30 "BlockCard$Eraser" "to" "I", Cond.methodLink RX6 207 yX0_groupsLeft, Cond.instanceMethod yX0_groupsLeft, Cond.selects RX0 yX0_groupsLeft yX0_groupsLeft, Cond.code yX0_groupsLeft cX0_groupsLeft 1 (some .int)]
def wsX6_changeLock : List Cond := .code yX6_changeLock cX6_changeLock 2 (some .int) :: ((wsX6_changeLock_r1 ++ (wsX6_changeLock_r2 ++ (wsX6_changeLock_r3 ++ (wsX6_changeLock_r4 ++ wsX6_changeLock_r5)))) ++ wsX60 ++ wsX10 ++ wsX30 ++ wsX00)
def wsX6_obey_r1 : List Cond := [Cond.fieldLink RX6 204 "BlockCard" "well" "I", Cond.methodLink RX6 279 yX6_reset, Cond.instanceMethod yX6_reset, Cond.selects RX6 yX6_reset yX6_reset, Cond.initialized RX6, Cond.code yX6_reset cX6_reset 1 (some .int), Cond.methodLink RX6 72 yX6_tearUnfinished, Cond.instanceMethod yX6_tearUnfinished, Cond.selects RX6 yX6_tearUnfinished yX6_tearUnfinished, Cond.code yX6_tearUnfinished cX6_tearUnfinished 1 none, Cond.fieldLink RX6 31 "BlockCard" "queue" "LBlockCard$Queue;", Cond.fieldLink RX6 10 "BlockCard" "memory" "LBlockCard$Memory;", Cond.fieldLink RX6 38 "BlockCard" "eraser" "LBlockCard$Eraser;", Cond.methodLink RX6 252 yX4_firstHasBegun, Cond.instanceMethod yX4_firstHasBegun, Cond.selects RX4 yX4_firstHasBegun yX4_firstHasBegun, Cond.initialized RX4, Cond.code yX4_firstHasBegun cX4_firstHasBegun 1 (some .boolean), Cond.fieldLink RX4 18 "BlockCard$Queue" "size" "I", Cond.fieldLink RX4 22 "BlockCard$Queue" "ticksOfFirst" "I", Cond.methodLink RX6 178 yX4_tellOf, Cond.instanceMethod yX4_tellOf, Cond.selects RX4 yX4_tellOf yX4_tellOf, Cond.code yX4_tellOf cX4_tellOf 3 (some .int)]
def wsX6_obey_r2 : List Cond := [Cond.fieldLink RX4 9 "BlockCard$Queue" "places" "[I", Cond.fieldLink RX4 15 "BlockCard$Queue" "contents" "[I", Cond.methodLink RX6 255 yX3_tear, Cond.instanceMethod yX3_tear, Cond.selects RX3 yX3_tear yX3_tear, Cond.initialized RX3, Cond.code yX3_tear cX3_tear 2 none, Cond.methodLink RX3 54 yX3_blank, Cond.instanceMethod yX3_blank, Cond.selects RX3 yX3_blank yX3_blank, Cond.code yX3_blank cX3_blank 6 none, Cond.fieldLink RX3 31 "BlockCard$Memory" "size" "I", Cond.methodLink RX3 22 Lib.Math.min.name, Cond.static Lib.Math.min.name, Cond.initialized "java/lang/Math", Cond.code Lib.Math.min.name Lib.Math.min.code 2 (some .int), Cond.methodLink RX3 28 Lib.Math.max.name, Cond.static Lib.Math.max.name, Cond.code Lib.Math.max.name Lib.Math.max.code 2 (some .int), Cond.fieldLink RX3 9 "BlockCard$Memory" "contents" "[I", Cond.constant RX3 41 (65535), Cond.fieldLink RX3 15 "BlockCard$Memory" "torn" "[Z", Cond.methodLink RX3 46 yX3_dropWritten, Cond.instanceMethod yX3_dropWritten]
def wsX6_obey_r3 : List Cond := [Cond.selects RX3 yX3_dropWritten yX3_dropWritten, Cond.code yX3_dropWritten cX3_dropWritten 5 none, Cond.fieldLink RX3 38 "BlockCard$Memory" "writtenCount" "I", Cond.fieldLink RX3 19 "BlockCard$Memory" "written" "[I", Cond.methodLink RX6 258 yX0_groupHasBegun, Cond.instanceMethod yX0_groupHasBegun, Cond.selects RX0 yX0_groupHasBegun yX0_groupHasBegun, Cond.initialized RX0, Cond.code yX0_groupHasBegun cX0_groupHasBegun 1 (some .boolean), Cond.fieldLink RX0 18 "BlockCard$Eraser" "left" "I", Cond.fieldLink RX0 21 "BlockCard$Eraser" "ticksOfLowest" "I", Cond.methodLink RX6 261 yX0_group, Cond.instanceMethod yX0_group, Cond.selects RX0 yX0_group yX0_group, Cond.code yX0_group cX0_group 1 (some .int), Cond.fieldLink RX0 14 "BlockCard$Eraser" "lowest" "I", Cond.methodLink RX6 264 yX3_tearGroup, Cond.instanceMethod yX3_tearGroup, Cond.selects RX3 yX3_tearGroup yX3_tearGroup, Cond.code yX3_tearGroup cX3_tearGroup 2 none, Cond.fieldLink RX3 35 "BlockCard$Memory" "groupSize" "I", Cond.methodLink RX6 69 yX6_start, Cond.instanceMethod yX6_start, Cond.selects RX6 yX6_start yX6_start]
def wsX6_obey_r4 : List Cond := [Cond.code yX6_start cX6_start 1 none, Cond.fieldLink RX6 111 "BlockCard" "state" "I", Cond.fieldLink RX6 25 "BlockCard" "secret" "LBlockCard$Letters;", Cond.fieldLink RX6 197 "BlockCard" "locked" "Z", Cond.methodLink RX6 75 yX6_goDark, Cond.instanceMethod yX6_goDark, Cond.selects RX6 yX6_goDark yX6_goDark, Cond.code yX6_goDark cX6_goDark 1 none, Cond.fieldLink RX6 185 "BlockCard" "address" "I", Cond.fieldLink RX6 201 "BlockCard" "notes" "I", Cond.fieldLink RX6 244 "BlockCard" "woken" "I", Cond.fieldLink RX6 52 "BlockCard" "link" "LBlockCard$Link;", Cond.fieldLink RX6 45 "BlockCard" "stream" "LBlockCard$Stream;", Cond.methodLink RX6 247 yX2_clear, Cond.instanceMethod yX2_clear, Cond.selects RX2 yX2_clear yX2_clear, Cond.initialized RX2, Cond.code yX2_clear cX2_clear 1 none, Cond.fieldLink RX2 9 "BlockCard$Link" "lines" "I", Cond.fieldLink RX2 15 "BlockCard$Link" "speed" "I", Cond.fieldLink RX2 18 "BlockCard$Link" "point" "I", Cond.methodLink RX6 249 yX4_clear, Cond.instanceMethod yX4_clear, Cond.selects RX4 yX4_clear yX4_clear]
def wsX6_obey_r5 : List Cond := [Cond.code yX4_clear cX4_clear 1 none, Cond.methodLink RX6 250 yX0_clear, Cond.instanceMethod yX0_clear, Cond.selects RX0 yX0_clear yX0_clear, Cond.code yX0_clear cX0_clear 1 none, Cond.methodLink RX0 9 yX0_forget, Cond.instanceMethod yX0_forget, Cond.selects RX0 yX0_forget yX0_forget, Cond.code yX0_forget cX0_forget 1 none, Cond.fieldLink RX0 24 "BlockCard$Eraser" "begun" "I", Cond.fieldLink RX0 27 "BlockCard$Eraser" "from" "I", Cond.fieldLink RX0 30 "BlockCard$Eraser" "to" "I", Cond.methodLink RX6 251 yX5_clear, Cond.instanceMethod yX5_clear, Cond.selects RX5 yX5_clear yX5_clear, Cond.initialized RX5, Cond.code yX5_clear cX5_clear 1 none, Cond.fieldLink RX5 7 "BlockCard$Stream" "expected" "I", Cond.fieldLink RX5 13 "BlockCard$Stream" "next" "I", Cond.fieldLink RX5 16 "BlockCard$Stream" "left" "I", Cond.fieldLink RX5 19 "BlockCard$Stream" "counted" "Z", Cond.fieldLink RX5 23 "BlockCard$Stream" "wrong" "Z", Cond.methodLink RX6 86 yX1_length, Cond.instanceMethod yX1_length]
def wsX6_obey_r6 : List Cond := [Cond.selects RX1 yX1_length yX1_length, Cond.initialized RX1, Cond.code yX1_length cX1_length 1 (some .int), Cond.fieldLink RX1 21 "BlockCard$Letters" "length" "I", Cond.methodLink RX6 282 yX6_wake, Cond.instanceMethod yX6_wake, Cond.selects RX6 yX6_wake yX6_wake, Cond.code yX6_wake cX6_wake 1 (some .int), Cond.fieldLink RX6 235 "BlockCard" "idleness" "I", Cond.methodLink RX6 285 yX6_tellNumber, Cond.instanceMethod yX6_tellNumber, Cond.selects RX6 yX6_tellNumber yX6_tellNumber, Cond.code yX6_tellNumber cX6_tellNumber 1 (some .int), Cond.fieldLink RX6 238 "BlockCard" "number" "I", Cond.methodLink RX6 288 yX6_takeAddress, Cond.instanceMethod yX6_takeAddress, Cond.selects RX6 yX6_takeAddress yX6_takeAddress, Cond.code yX6_takeAddress cX6_takeAddress 1 (some .int), Cond.methodLink RX6 291 yX6_choose, Cond.instanceMethod yX6_choose, Cond.selects RX6 yX6_choose yX6_choose, Cond.code yX6_choose cX6_choose 3 (some .int), Cond.methodLink RX6 294 yX6_tellStatus, Cond.instanceMethod yX6_tellStatus]
def wsX6_obey_r7 : List Cond := [Cond.selects RX6 yX6_tellStatus yX6_tellStatus, Cond.code yX6_tellStatus cX6_tellStatus 3 (some .int), Cond.methodLink RX6 162 yX6_asNumber, Cond.static yX6_asNumber, Cond.code yX6_asNumber cX6_asNumber 1 (some .int), Cond.methodLink RX6 297 yX6_switchLines, Cond.instanceMethod yX6_switchLines, Cond.selects RX6 yX6_switchLines yX6_switchLines, Cond.code yX6_switchLines cX6_switchLines 2 (some .int), Cond.methodLink RX6 325 yX2_change, Cond.instanceMethod yX2_change, Cond.selects RX2 yX2_change yX2_change, Cond.code yX2_change cX2_change 3 (some .boolean), Cond.methodLink RX6 135 yX6_note, Cond.instanceMethod yX6_note, Cond.selects RX6 yX6_note yX6_note, Cond.code yX6_note cX6_note 2 none, Cond.methodLink RX6 191 yX2_speed, Cond.instanceMethod yX2_speed, Cond.selects RX2 yX2_speed yX2_speed, Cond.code yX2_speed cX2_speed 1 (some .int), Cond.methodLink RX6 188 yX2_lines, Cond.instanceMethod yX2_lines, Cond.selects RX2 yX2_lines yX2_lines]
def wsX6_obey_r8 : List Cond := [Cond.code yX2_lines cX2_lines 1 (some .int), Cond.methodLink RX6 300 yX6_movePoint, Cond.instanceMethod yX6_movePoint, Cond.selects RX6 yX6_movePoint yX6_movePoint, Cond.code yX6_movePoint cX6_movePoint 2 (some .int), Cond.fieldLink RX6 78 "BlockCard" "heat" "I", Cond.methodLink RX6 328 yX2_look, Cond.instanceMethod yX2_look, Cond.selects RX2 yX2_look yX2_look, Cond.code yX2_look cX2_look 2 none, Cond.methodLink RX6 132 yX2_isInWindow, Cond.instanceMethod yX2_isInWindow, Cond.selects RX2 yX2_isInWindow yX2_isInWindow, Cond.code yX2_isInWindow cX2_isInWindow 5 (some .boolean), Cond.methodLink RX2 27 Lib.Math.min.name, Cond.methodLink RX2 21 yJ9_floorMod_7cf53, Cond.static yJ9_floorMod_7cf53, Cond.initialized RJ9, Cond.code yJ9_floorMod_7cf53 cJ9_floorMod_7cf53 3 (some .int), Cond.methodLink RX6 303 yX6_expect, Cond.instanceMethod yX6_expect, Cond.selects RX6 yX6_expect yX6_expect, Cond.code yX6_expect cX6_expect 2 (some .int), Cond.methodLink RX6 331 yX5_expect]
def wsX6_obey_r9 : List Cond := [Cond.instanceMethod yX5_expect, Cond.selects RX5 yX5_expect yX5_expect, Cond.code yX5_expect cX5_expect 2 none, Cond.methodLink RX6 306 yX6_beginStream, Cond.instanceMethod yX6_beginStream, Cond.selects RX6 yX6_beginStream yX6_beginStream, Cond.code yX6_beginStream cX6_beginStream 4 (some .int), Cond.methodLink RX6 123 yX3_has, Cond.instanceMethod yX3_has, Cond.selects RX3 yX3_has yX3_has, Cond.code yX3_has cX3_has 2 (some .boolean), Cond.methodLink RX6 126 yX6_refuse, Cond.instanceMethod yX6_refuse, Cond.selects RX6 yX6_refuse yX6_refuse, Cond.code yX6_refuse cX6_refuse 2 (some .int), Cond.methodLink RX6 333 yX5_begin, Cond.instanceMethod yX5_begin, Cond.selects RX5 yX5_begin yX5_begin, Cond.code yX5_begin cX5_begin 3 none, Cond.methodLink RX6 310 yX6_stop, Cond.instanceMethod yX6_stop, Cond.selects RX6 yX6_stop yX6_stop, Cond.code yX6_stop cX6_stop 2 (some .int), Cond.methodLink RX6 175 yX4_size]
def wsX6_obey_r10 : List Cond := [Cond.instanceMethod yX4_size, Cond.selects RX4 yX4_size yX4_size, Cond.code yX4_size cX4_size 1 (some .int), Cond.methodLink RX6 313 yX6_eraseFrom, Cond.instanceMethod yX6_eraseFrom, Cond.selects RX6 yX6_eraseFrom yX6_eraseFrom, Cond.code yX6_eraseFrom cX6_eraseFrom 2 (some .int), Cond.methodLink RX6 337 yX0_beginFrom, Cond.instanceMethod yX0_beginFrom, Cond.selects RX0 yX0_beginFrom yX0_beginFrom, Cond.code yX0_beginFrom cX0_beginFrom 2 none, Cond.methodLink RX6 316 yX6_eraseTo, Cond.instanceMethod yX6_eraseTo, Cond.selects RX6 yX6_eraseTo yX6_eraseTo, Cond.code yX6_eraseTo cX6_eraseTo 2 (some .int), Cond.methodLink RX6 273 yX0_forget, Cond.methodLink RX6 340 yX0_continueTo, Cond.instanceMethod yX0_continueTo, Cond.selects RX0 yX0_continueTo yX0_continueTo, Cond.code yX0_continueTo cX0_continueTo 2 (some .boolean), Cond.methodLink RX6 319 yX6_erase, Cond.instanceMethod yX6_erase, Cond.selects RX6 yX6_erase yX6_erase, Cond.code yX6_erase cX6_erase 1 (some .int)]
def wsX6_obey_r11 : List Cond := [Cond.methodLink RX6 343 yX0_isReady, Cond.instanceMethod yX0_isReady, Cond.selects RX0 yX0_isReady yX0_isReady, Cond.code yX0_isReady cX0_isReady 1 (some .boolean), Cond.methodLink RX6 346 yX0_from, Cond.instanceMethod yX0_from, Cond.selects RX0 yX0_from yX0_from, Cond.code yX0_from cX0_from 1 (some .int), Cond.methodLink RX6 166 yX3_groupOf, Cond.instanceMethod yX3_groupOf, Cond.selects RX3 yX3_groupOf yX3_groupOf, Cond.code yX3_groupOf cX3_groupOf 2 (some .int), Cond.methodLink RX6 349 yX0_to, Cond.instanceMethod yX0_to, Cond.selects RX0 yX0_to yX0_to, Cond.code yX0_to cX0_to 1 (some .int), Cond.methodLink RX6 352 yX6_beginErasing, Cond.instanceMethod yX6_beginErasing, Cond.selects RX6 yX6_beginErasing yX6_beginErasing, Cond.code yX6_beginErasing cX6_beginErasing 3 (some .int), Cond.methodLink RX6 355 yX0_begin, Cond.instanceMethod yX0_begin, Cond.selects RX0 yX0_begin yX0_begin, Cond.code yX0_begin cX0_begin 3 none]
def wsX6_obey_r12 : List Cond := [Cond.methodLink RX6 207 yX0_groupsLeft, Cond.instanceMethod yX0_groupsLeft, Cond.selects RX0 yX0_groupsLeft yX0_groupsLeft, Cond.code yX0_groupsLeft cX0_groupsLeft 1 (some .int), Cond.methodLink RX6 322 yX6_changeLock, Cond.instanceMethod yX6_changeLock, Cond.selects RX6 yX6_changeLock yX6_changeLock, Cond.code yX6_changeLock cX6_changeLock 2 (some .int), Cond.methodLink RX6 357 yX6_unlock, Cond.instanceMethod yX6_unlock, Cond.selects RX6 yX6_unlock yX6_unlock, Cond.code yX6_unlock cX6_unlock 1 (some .int), Cond.methodLink RX6 376 yX6_textIsSecret, Cond.instanceMethod yX6_textIsSecret, Cond.selects RX6 yX6_textIsSecret yX6_textIsSecret, Cond.code yX6_textIsSecret cX6_textIsSecret 1 (some .boolean), Cond.fieldLink RX6 21 "BlockCard" "text" "LBlockCard$Letters;", Cond.methodLink RX6 372 yX1_startsWith, Cond.instanceMethod yX1_startsWith, Cond.selects RX1 yX1_startsWith yX1_startsWith, Cond.code yX1_startsWith cX1_startsWith 3 (some .boolean), Cond.methodLink RX1 25 yX1_at, Cond.instanceMethod yX1_at, Cond.selects RX1 yX1_at yX1_at]
def wsX6_obey_r13 : List Cond := [Cond.code yX1_at cX1_at 2 (some .int), Cond.fieldLink RX1 15 "BlockCard$Letters" "signs" "[I", Cond.methodLink RX6 360 yX6_setSecret, Cond.instanceMethod yX6_setSecret, Cond.selects RX6 yX6_setSecret yX6_setSecret, Cond.code yX6_setSecret cX6_setSecret 3 (some .int), Cond.methodLink RX6 60 yX6_isOutside, Cond.static yX6_isOutside, Cond.code yX6_isOutside cX6_isOutside 3 (some .boolean), Cond.methodLink RX6 379 yX1_becomeTail, Cond.instanceMethod yX1_becomeTail, Cond.selects RX1 yX1_becomeTail yX1_becomeTail, Cond.code yX1_becomeTail cX1_becomeTail 4 none, Cond.methodLink RX1 29 yX1_empty, Cond.instanceMethod yX1_empty, Cond.selects RX1 yX1_empty yX1_empty, Cond.code yX1_empty cX1_empty 1 none, Cond.methodLink RX1 32 yX1_append, Cond.instanceMethod yX1_append, Cond.selects RX1 yX1_append yX1_append, Cond.code yX1_append cX1_append 2 (some .boolean), Cond.methodLink RX6 363 yX6_clearSecret, Cond.instanceMethod yX6_clearSecret, Cond.selects RX6 yX6_clearSecret yX6_clearSecret]
def wsX6_obey_r14 : List Cond := [Cond.code yX6_clearSecret cX6_clearSecret 1 (some .int), Cond.methodLink RX6 90 yX1_empty, Cond.methodLink RX6 366 yX6_lock, Cond.instanceMethod yX6_lock, Cond.selects RX6 yX6_lock yX6_lock, Cond.code yX6_lock cX6_lock 1 (some .int), Cond.methodLink RX6 369 yX6_force, Cond.instanceMethod yX6_force, Cond.selects RX6 yX6_force yX6_force, Cond.code yX6_force cX6_force 1 (some .int), Cond.methodLink RX6 181 yX3_size, Cond.instanceMethod yX3_size, Cond.selects RX3 yX3_size yX3_size, Cond.code yX3_size cX3_size 1 (some .int)]
def wsX6_obey : List Cond := .code yX6_obey cX6_obey 3 (some .int) :: ((wsX6_obey_r1 ++ (wsX6_obey_r2 ++ (wsX6_obey_r3 ++ (wsX6_obey_r4 ++ (wsX6_obey_r5 ++ (wsX6_obey_r6 ++ (wsX6_obey_r7 ++ (wsX6_obey_r8 ++ (wsX6_obey_r9 ++ (wsX6_obey_r10 ++ (wsX6_obey_r11 ++ (wsX6_obey_r12 ++ (wsX6_obey_r13 ++ wsX6_obey_r14))))))))))))) ++ wsX60 ++ wsX40 ++ wsX30 ++ wsX00 ++ wsX20 ++ wsX50 ++ wsX10)
def wsX6_send_r1 : List Cond := [Cond.methodLink RX6 93 yX6_isNoCommand, Cond.static yX6_isNoCommand, Cond.initialized RX6, Cond.code yX6_isNoCommand cX6_isNoCommand 2 (some .boolean), Cond.constant RX6 64 (65535), Cond.methodLink RX6 60 yX6_isOutside, Cond.static yX6_isOutside, Cond.code yX6_isOutside cX6_isOutside 3 (some .boolean), Cond.methodLink RX6 105 yX6_hears, Cond.instanceMethod yX6_hears, Cond.selects RX6 yX6_hears yX6_hears, Cond.code yX6_hears cX6_hears 4 (some .boolean), Cond.fieldLink RX6 38 "BlockCard" "eraser" "LBlockCard$Eraser;", Cond.methodLink RX6 65 yX6_isPowered, Cond.instanceMethod yX6_isPowered, Cond.selects RX6 yX6_isPowered yX6_isPowered, Cond.code yX6_isPowered cX6_isPowered 1 (some .boolean), Cond.fieldLink RX6 111 "BlockCard" "state" "I", Cond.methodLink RX6 97 yX6_commandCheck, Cond.static yX6_commandCheck, Cond.code yX6_commandCheck cX6_commandCheck 2 (some .int), Cond.constant RX6 225 (65536), Cond.methodLink RX6 226 yX6_checkOfBits, Cond.static yX6_checkOfBits]
def wsX6_send_r2 : List Cond := [Cond.code yX6_checkOfBits cX6_checkOfBits 5 (some .int), Cond.methodLink RX6 135 yX6_note, Cond.instanceMethod yX6_note, Cond.selects RX6 yX6_note yX6_note, Cond.code yX6_note cX6_note 2 none, Cond.fieldLink RX6 201 "BlockCard" "notes" "I", Cond.methodLink RX6 267 yX6_isOpenTo, Cond.instanceMethod yX6_isOpenTo, Cond.selects RX6 yX6_isOpenTo yX6_isOpenTo, Cond.code yX6_isOpenTo cX6_isOpenTo 2 (some .boolean), Cond.fieldLink RX6 197 "BlockCard" "locked" "Z", Cond.methodLink RX6 229 yX6_isBarredByLock, Cond.static yX6_isBarredByLock, Cond.code yX6_isBarredByLock cX6_isBarredByLock 1 (some .boolean), Cond.methodLink RX6 276 yX6_statesOf, Cond.static yX6_statesOf, Cond.code yX6_statesOf cX6_statesOf 1 (some .int), Cond.methodLink RX6 270 yX0_isBrokenOffBy, Cond.instanceMethod yX0_isBrokenOffBy, Cond.selects RX0 yX0_isBrokenOffBy yX0_isBrokenOffBy, Cond.initialized RX0, Cond.code yX0_isBrokenOffBy cX0_isBrokenOffBy 3 (some .boolean), Cond.fieldLink RX0 24 "BlockCard$Eraser" "begun" "I", Cond.methodLink RX6 273 yX0_forget]
def wsX6_send_r3 : List Cond := [Cond.instanceMethod yX0_forget, Cond.selects RX0 yX0_forget yX0_forget, Cond.code yX0_forget cX0_forget 1 none, Cond.fieldLink RX0 27 "BlockCard$Eraser" "from" "I", Cond.fieldLink RX0 30 "BlockCard$Eraser" "to" "I", Cond.methodLink RX6 108 yX6_obey, Cond.instanceMethod yX6_obey, Cond.selects RX6 yX6_obey yX6_obey, Cond.code yX6_obey cX6_obey 3 (some .int), Cond.fieldLink RX6 204 "BlockCard" "well" "I", Cond.methodLink RX6 279 yX6_reset, Cond.instanceMethod yX6_reset, Cond.selects RX6 yX6_reset yX6_reset, Cond.code yX6_reset cX6_reset 1 (some .int), Cond.methodLink RX6 72 yX6_tearUnfinished, Cond.instanceMethod yX6_tearUnfinished, Cond.selects RX6 yX6_tearUnfinished yX6_tearUnfinished, Cond.code yX6_tearUnfinished cX6_tearUnfinished 1 none, Cond.fieldLink RX6 31 "BlockCard" "queue" "LBlockCard$Queue;", Cond.fieldLink RX6 10 "BlockCard" "memory" "LBlockCard$Memory;", Cond.methodLink RX6 252 yX4_firstHasBegun, Cond.instanceMethod yX4_firstHasBegun, Cond.selects RX4 yX4_firstHasBegun yX4_firstHasBegun, Cond.initialized RX4]
def wsX6_send_r4 : List Cond := [Cond.code yX4_firstHasBegun cX4_firstHasBegun 1 (some .boolean), Cond.fieldLink RX4 18 "BlockCard$Queue" "size" "I", Cond.fieldLink RX4 22 "BlockCard$Queue" "ticksOfFirst" "I", Cond.methodLink RX6 178 yX4_tellOf, Cond.instanceMethod yX4_tellOf, Cond.selects RX4 yX4_tellOf yX4_tellOf, Cond.code yX4_tellOf cX4_tellOf 3 (some .int), Cond.fieldLink RX4 9 "BlockCard$Queue" "places" "[I", Cond.fieldLink RX4 15 "BlockCard$Queue" "contents" "[I", Cond.methodLink RX6 255 yX3_tear, Cond.instanceMethod yX3_tear, Cond.selects RX3 yX3_tear yX3_tear, Cond.initialized RX3, Cond.code yX3_tear cX3_tear 2 none, Cond.methodLink RX3 54 yX3_blank, Cond.instanceMethod yX3_blank, Cond.selects RX3 yX3_blank yX3_blank, Cond.code yX3_blank cX3_blank 6 none, Cond.fieldLink RX3 31 "BlockCard$Memory" "size" "I", Cond.methodLink RX3 22 Lib.Math.min.name, Cond.static Lib.Math.min.name, Cond.initialized "java/lang/Math", Cond.code Lib.Math.min.name Lib.Math.min.code 2 (some .int), Cond.methodLink RX3 28 Lib.Math.max.name]
def wsX6_send_r5 : List Cond := [Cond.static Lib.Math.max.name, Cond.code Lib.Math.max.name Lib.Math.max.code 2 (some .int), Cond.fieldLink RX3 9 "BlockCard$Memory" "contents" "[I", Cond.constant RX3 41 (65535), Cond.fieldLink RX3 15 "BlockCard$Memory" "torn" "[Z", Cond.methodLink RX3 46 yX3_dropWritten, Cond.instanceMethod yX3_dropWritten, Cond.selects RX3 yX3_dropWritten yX3_dropWritten, Cond.code yX3_dropWritten cX3_dropWritten 5 none, Cond.fieldLink RX3 38 "BlockCard$Memory" "writtenCount" "I", Cond.fieldLink RX3 19 "BlockCard$Memory" "written" "[I", Cond.methodLink RX6 258 yX0_groupHasBegun, Cond.instanceMethod yX0_groupHasBegun, Cond.selects RX0 yX0_groupHasBegun yX0_groupHasBegun, Cond.code yX0_groupHasBegun cX0_groupHasBegun 1 (some .boolean), Cond.fieldLink RX0 18 "BlockCard$Eraser" "left" "I", Cond.fieldLink RX0 21 "BlockCard$Eraser" "ticksOfLowest" "I", Cond.methodLink RX6 261 yX0_group, Cond.instanceMethod yX0_group, Cond.selects RX0 yX0_group yX0_group, Cond.code yX0_group cX0_group 1 (some .int), Cond.fieldLink RX0 14 "BlockCard$Eraser" "lowest" "I", Cond.methodLink RX6 264 yX3_tearGroup, Cond.instanceMethod yX3_tearGroup]
def wsX6_send_r6 : List Cond := [Cond.selects RX3 yX3_tearGroup yX3_tearGroup, Cond.code yX3_tearGroup cX3_tearGroup 2 none, Cond.fieldLink RX3 35 "BlockCard$Memory" "groupSize" "I", Cond.methodLink RX6 69 yX6_start, Cond.instanceMethod yX6_start, Cond.selects RX6 yX6_start yX6_start, Cond.code yX6_start cX6_start 1 none, Cond.fieldLink RX6 25 "BlockCard" "secret" "LBlockCard$Letters;", Cond.methodLink RX6 75 yX6_goDark, Cond.instanceMethod yX6_goDark, Cond.selects RX6 yX6_goDark yX6_goDark, Cond.code yX6_goDark cX6_goDark 1 none, Cond.fieldLink RX6 185 "BlockCard" "address" "I", Cond.fieldLink RX6 244 "BlockCard" "woken" "I", Cond.fieldLink RX6 52 "BlockCard" "link" "LBlockCard$Link;", Cond.fieldLink RX6 45 "BlockCard" "stream" "LBlockCard$Stream;", Cond.methodLink RX6 247 yX2_clear, Cond.instanceMethod yX2_clear, Cond.selects RX2 yX2_clear yX2_clear, Cond.initialized RX2, Cond.code yX2_clear cX2_clear 1 none, Cond.fieldLink RX2 9 "BlockCard$Link" "lines" "I", Cond.fieldLink RX2 15 "BlockCard$Link" "speed" "I", Cond.fieldLink RX2 18 "BlockCard$Link" "point" "I"]
def wsX6_send_r7 : List Cond := [Cond.methodLink RX6 249 yX4_clear, Cond.instanceMethod yX4_clear, Cond.selects RX4 yX4_clear yX4_clear, Cond.code yX4_clear cX4_clear 1 none, Cond.methodLink RX6 250 yX0_clear, Cond.instanceMethod yX0_clear, Cond.selects RX0 yX0_clear yX0_clear, Cond.code yX0_clear cX0_clear 1 none, Cond.methodLink RX0 9 yX0_forget, Cond.methodLink RX6 251 yX5_clear, Cond.instanceMethod yX5_clear, Cond.selects RX5 yX5_clear yX5_clear, Cond.initialized RX5, Cond.code yX5_clear cX5_clear 1 none, Cond.fieldLink RX5 7 "BlockCard$Stream" "expected" "I", Cond.fieldLink RX5 13 "BlockCard$Stream" "next" "I", Cond.fieldLink RX5 16 "BlockCard$Stream" "left" "I", Cond.fieldLink RX5 19 "BlockCard$Stream" "counted" "Z", Cond.fieldLink RX5 23 "BlockCard$Stream" "wrong" "Z", Cond.methodLink RX6 86 yX1_length, Cond.instanceMethod yX1_length, Cond.selects RX1 yX1_length yX1_length, Cond.initialized RX1, Cond.code yX1_length cX1_length 1 (some .int)]
def wsX6_send_r8 : List Cond := [Cond.fieldLink RX1 21 "BlockCard$Letters" "length" "I", Cond.methodLink RX6 282 yX6_wake, Cond.instanceMethod yX6_wake, Cond.selects RX6 yX6_wake yX6_wake, Cond.code yX6_wake cX6_wake 1 (some .int), Cond.fieldLink RX6 235 "BlockCard" "idleness" "I", Cond.methodLink RX6 285 yX6_tellNumber, Cond.instanceMethod yX6_tellNumber, Cond.selects RX6 yX6_tellNumber yX6_tellNumber, Cond.code yX6_tellNumber cX6_tellNumber 1 (some .int), Cond.fieldLink RX6 238 "BlockCard" "number" "I", Cond.methodLink RX6 288 yX6_takeAddress, Cond.instanceMethod yX6_takeAddress, Cond.selects RX6 yX6_takeAddress yX6_takeAddress, Cond.code yX6_takeAddress cX6_takeAddress 1 (some .int), Cond.methodLink RX6 291 yX6_choose, Cond.instanceMethod yX6_choose, Cond.selects RX6 yX6_choose yX6_choose, Cond.code yX6_choose cX6_choose 3 (some .int), Cond.methodLink RX6 294 yX6_tellStatus, Cond.instanceMethod yX6_tellStatus, Cond.selects RX6 yX6_tellStatus yX6_tellStatus, Cond.code yX6_tellStatus cX6_tellStatus 3 (some .int), Cond.methodLink RX6 162 yX6_asNumber]
def wsX6_send_r9 : List Cond := [Cond.static yX6_asNumber, Cond.code yX6_asNumber cX6_asNumber 1 (some .int), Cond.methodLink RX6 297 yX6_switchLines, Cond.instanceMethod yX6_switchLines, Cond.selects RX6 yX6_switchLines yX6_switchLines, Cond.code yX6_switchLines cX6_switchLines 2 (some .int), Cond.methodLink RX6 325 yX2_change, Cond.instanceMethod yX2_change, Cond.selects RX2 yX2_change yX2_change, Cond.code yX2_change cX2_change 3 (some .boolean), Cond.methodLink RX6 191 yX2_speed, Cond.instanceMethod yX2_speed, Cond.selects RX2 yX2_speed yX2_speed, Cond.code yX2_speed cX2_speed 1 (some .int), Cond.methodLink RX6 188 yX2_lines, Cond.instanceMethod yX2_lines, Cond.selects RX2 yX2_lines yX2_lines, Cond.code yX2_lines cX2_lines 1 (some .int), Cond.methodLink RX6 300 yX6_movePoint, Cond.instanceMethod yX6_movePoint, Cond.selects RX6 yX6_movePoint yX6_movePoint, Cond.code yX6_movePoint cX6_movePoint 2 (some .int), Cond.fieldLink RX6 78 "BlockCard" "heat" "I", Cond.methodLink RX6 328 yX2_look]
def wsX6_send_r10 : List Cond := [Cond.instanceMethod yX2_look, Cond.selects RX2 yX2_look yX2_look, Cond.code yX2_look cX2_look 2 none, Cond.methodLink RX6 132 yX2_isInWindow, Cond.instanceMethod yX2_isInWindow, Cond.selects RX2 yX2_isInWindow yX2_isInWindow, Cond.code yX2_isInWindow cX2_isInWindow 5 (some .boolean), Cond.methodLink RX2 27 Lib.Math.min.name, Cond.methodLink RX2 21 yJ9_floorMod_7cf53, Cond.static yJ9_floorMod_7cf53, Cond.initialized RJ9, Cond.code yJ9_floorMod_7cf53 cJ9_floorMod_7cf53 3 (some .int), Cond.methodLink RX6 303 yX6_expect, Cond.instanceMethod yX6_expect, Cond.selects RX6 yX6_expect yX6_expect, Cond.code yX6_expect cX6_expect 2 (some .int), Cond.methodLink RX6 331 yX5_expect, Cond.instanceMethod yX5_expect, Cond.selects RX5 yX5_expect yX5_expect, Cond.code yX5_expect cX5_expect 2 none, Cond.methodLink RX6 306 yX6_beginStream, Cond.instanceMethod yX6_beginStream, Cond.selects RX6 yX6_beginStream yX6_beginStream, Cond.code yX6_beginStream cX6_beginStream 4 (some .int)]
def wsX6_send_r11 : List Cond := [Cond.methodLink RX6 123 yX3_has, Cond.instanceMethod yX3_has, Cond.selects RX3 yX3_has yX3_has, Cond.code yX3_has cX3_has 2 (some .boolean), Cond.methodLink RX6 126 yX6_refuse, Cond.instanceMethod yX6_refuse, Cond.selects RX6 yX6_refuse yX6_refuse, Cond.code yX6_refuse cX6_refuse 2 (some .int), Cond.methodLink RX6 333 yX5_begin, Cond.instanceMethod yX5_begin, Cond.selects RX5 yX5_begin yX5_begin, Cond.code yX5_begin cX5_begin 3 none, Cond.methodLink RX6 310 yX6_stop, Cond.instanceMethod yX6_stop, Cond.selects RX6 yX6_stop yX6_stop, Cond.code yX6_stop cX6_stop 2 (some .int), Cond.methodLink RX6 175 yX4_size, Cond.instanceMethod yX4_size, Cond.selects RX4 yX4_size yX4_size, Cond.code yX4_size cX4_size 1 (some .int), Cond.methodLink RX6 313 yX6_eraseFrom, Cond.instanceMethod yX6_eraseFrom, Cond.selects RX6 yX6_eraseFrom yX6_eraseFrom, Cond.code yX6_eraseFrom cX6_eraseFrom 2 (some .int)]
def wsX6_send_r12 : List Cond := [Cond.methodLink RX6 337 yX0_beginFrom, Cond.instanceMethod yX0_beginFrom, Cond.selects RX0 yX0_beginFrom yX0_beginFrom, Cond.code yX0_beginFrom cX0_beginFrom 2 none, Cond.methodLink RX6 316 yX6_eraseTo, Cond.instanceMethod yX6_eraseTo, Cond.selects RX6 yX6_eraseTo yX6_eraseTo, Cond.code yX6_eraseTo cX6_eraseTo 2 (some .int), Cond.methodLink RX6 340 yX0_continueTo, Cond.instanceMethod yX0_continueTo, Cond.selects RX0 yX0_continueTo yX0_continueTo, Cond.code yX0_continueTo cX0_continueTo 2 (some .boolean), Cond.methodLink RX6 319 yX6_erase, Cond.instanceMethod yX6_erase, Cond.selects RX6 yX6_erase yX6_erase, Cond.code yX6_erase cX6_erase 1 (some .int), Cond.methodLink RX6 343 yX0_isReady, Cond.instanceMethod yX0_isReady, Cond.selects RX0 yX0_isReady yX0_isReady, Cond.code yX0_isReady cX0_isReady 1 (some .boolean), Cond.methodLink RX6 346 yX0_from, Cond.instanceMethod yX0_from, Cond.selects RX0 yX0_from yX0_from, Cond.code yX0_from cX0_from 1 (some .int)]
def wsX6_send_r13 : List Cond := [Cond.methodLink RX6 166 yX3_groupOf, Cond.instanceMethod yX3_groupOf, Cond.selects RX3 yX3_groupOf yX3_groupOf, Cond.code yX3_groupOf cX3_groupOf 2 (some .int), Cond.methodLink RX6 349 yX0_to, Cond.instanceMethod yX0_to, Cond.selects RX0 yX0_to yX0_to, Cond.code yX0_to cX0_to 1 (some .int), Cond.methodLink RX6 352 yX6_beginErasing, Cond.instanceMethod yX6_beginErasing, Cond.selects RX6 yX6_beginErasing yX6_beginErasing, Cond.code yX6_beginErasing cX6_beginErasing 3 (some .int), Cond.methodLink RX6 355 yX0_begin, Cond.instanceMethod yX0_begin, Cond.selects RX0 yX0_begin yX0_begin, Cond.code yX0_begin cX0_begin 3 none, Cond.methodLink RX6 207 yX0_groupsLeft, Cond.instanceMethod yX0_groupsLeft, Cond.selects RX0 yX0_groupsLeft yX0_groupsLeft, Cond.code yX0_groupsLeft cX0_groupsLeft 1 (some .int), Cond.methodLink RX6 322 yX6_changeLock, Cond.instanceMethod yX6_changeLock, Cond.selects RX6 yX6_changeLock yX6_changeLock, Cond.code yX6_changeLock cX6_changeLock 2 (some .int)]
def wsX6_send_r14 : List Cond := [Cond.methodLink RX6 357 yX6_unlock, Cond.instanceMethod yX6_unlock, Cond.selects RX6 yX6_unlock yX6_unlock, Cond.code yX6_unlock cX6_unlock 1 (some .int), Cond.methodLink RX6 376 yX6_textIsSecret, Cond.instanceMethod yX6_textIsSecret, Cond.selects RX6 yX6_textIsSecret yX6_textIsSecret, Cond.code yX6_textIsSecret cX6_textIsSecret 1 (some .boolean), Cond.fieldLink RX6 21 "BlockCard" "text" "LBlockCard$Letters;", Cond.methodLink RX6 372 yX1_startsWith, Cond.instanceMethod yX1_startsWith, Cond.selects RX1 yX1_startsWith yX1_startsWith, Cond.code yX1_startsWith cX1_startsWith 3 (some .boolean), Cond.methodLink RX1 25 yX1_at, Cond.instanceMethod yX1_at, Cond.selects RX1 yX1_at yX1_at, Cond.code yX1_at cX1_at 2 (some .int), Cond.fieldLink RX1 15 "BlockCard$Letters" "signs" "[I", Cond.methodLink RX6 360 yX6_setSecret, Cond.instanceMethod yX6_setSecret, Cond.selects RX6 yX6_setSecret yX6_setSecret, Cond.code yX6_setSecret cX6_setSecret 3 (some .int), Cond.methodLink RX6 379 yX1_becomeTail, Cond.instanceMethod yX1_becomeTail]
def wsX6_send_r15 : List Cond := [Cond.selects RX1 yX1_becomeTail yX1_becomeTail, Cond.code yX1_becomeTail cX1_becomeTail 4 none, Cond.methodLink RX1 29 yX1_empty, Cond.instanceMethod yX1_empty, Cond.selects RX1 yX1_empty yX1_empty, Cond.code yX1_empty cX1_empty 1 none, Cond.methodLink RX1 32 yX1_append, Cond.instanceMethod yX1_append, Cond.selects RX1 yX1_append yX1_append, Cond.code yX1_append cX1_append 2 (some .boolean), Cond.methodLink RX6 363 yX6_clearSecret, Cond.instanceMethod yX6_clearSecret, Cond.selects RX6 yX6_clearSecret yX6_clearSecret, Cond.code yX6_clearSecret cX6_clearSecret 1 (some .int), Cond.methodLink RX6 90 yX1_empty, Cond.methodLink RX6 366 yX6_lock, Cond.instanceMethod yX6_lock, Cond.selects RX6 yX6_lock yX6_lock, Cond.code yX6_lock cX6_lock 1 (some .int), Cond.methodLink RX6 369 yX6_force, Cond.instanceMethod yX6_force, Cond.selects RX6 yX6_force yX6_force, Cond.code yX6_force cX6_force 1 (some .int), Cond.methodLink RX6 181 yX3_size]
def wsX6_send_r16 : List Cond := [Cond.instanceMethod yX3_size, Cond.selects RX3 yX3_size yX3_size, Cond.code yX3_size cX3_size 1 (some .int)]
def wsX6_send : List Cond := .code yX6_send cX6_send 4 (some .int) :: ((wsX6_send_r1 ++ (wsX6_send_r2 ++ (wsX6_send_r3 ++ (wsX6_send_r4 ++ (wsX6_send_r5 ++ (wsX6_send_r6 ++ (wsX6_send_r7 ++ (wsX6_send_r8 ++ (wsX6_send_r9 ++ (wsX6_send_r10 ++ (wsX6_send_r11 ++ (wsX6_send_r12 ++ (wsX6_send_r13 ++ (wsX6_send_r14 ++ (wsX6_send_r15 ++ wsX6_send_r16))))))))))))))) ++ wsX60 ++ wsX00 ++ wsX40 ++ wsX30 ++ wsX20 ++ wsX50 ++ wsX10)
def wsX6_tell_r1 : List Cond := [Cond.methodLink RX6 93 yX6_isNoCommand, Cond.static yX6_isNoCommand, Cond.initialized RX6, Cond.code yX6_isNoCommand cX6_isNoCommand 2 (some .boolean), Cond.constant RX6 64 (65535), Cond.methodLink RX6 60 yX6_isOutside, Cond.static yX6_isOutside, Cond.code yX6_isOutside cX6_isOutside 3 (some .boolean), Cond.methodLink RX6 97 yX6_commandCheck, Cond.static yX6_commandCheck, Cond.code yX6_commandCheck cX6_commandCheck 2 (some .int), Cond.constant RX6 225 (65536), Cond.methodLink RX6 226 yX6_checkOfBits, Cond.static yX6_checkOfBits, Cond.code yX6_checkOfBits cX6_checkOfBits 5 (some .int), Cond.methodLink RX6 105 yX6_hears, Cond.instanceMethod yX6_hears, Cond.selects RX6 yX6_hears yX6_hears, Cond.code yX6_hears cX6_hears 4 (some .boolean), Cond.fieldLink RX6 38 "BlockCard" "eraser" "LBlockCard$Eraser;", Cond.methodLink RX6 65 yX6_isPowered, Cond.instanceMethod yX6_isPowered, Cond.selects RX6 yX6_isPowered yX6_isPowered, Cond.code yX6_isPowered cX6_isPowered 1 (some .boolean)]
def wsX6_tell_r2 : List Cond := [Cond.fieldLink RX6 111 "BlockCard" "state" "I", Cond.methodLink RX6 135 yX6_note, Cond.instanceMethod yX6_note, Cond.selects RX6 yX6_note yX6_note, Cond.code yX6_note cX6_note 2 none, Cond.fieldLink RX6 201 "BlockCard" "notes" "I", Cond.methodLink RX6 267 yX6_isOpenTo, Cond.instanceMethod yX6_isOpenTo, Cond.selects RX6 yX6_isOpenTo yX6_isOpenTo, Cond.code yX6_isOpenTo cX6_isOpenTo 2 (some .boolean), Cond.fieldLink RX6 197 "BlockCard" "locked" "Z", Cond.methodLink RX6 229 yX6_isBarredByLock, Cond.static yX6_isBarredByLock, Cond.code yX6_isBarredByLock cX6_isBarredByLock 1 (some .boolean), Cond.methodLink RX6 276 yX6_statesOf, Cond.static yX6_statesOf, Cond.code yX6_statesOf cX6_statesOf 1 (some .int), Cond.methodLink RX6 270 yX0_isBrokenOffBy, Cond.instanceMethod yX0_isBrokenOffBy, Cond.selects RX0 yX0_isBrokenOffBy yX0_isBrokenOffBy, Cond.initialized RX0, Cond.code yX0_isBrokenOffBy cX0_isBrokenOffBy 3 (some .boolean), Cond.fieldLink RX0 24 "BlockCard$Eraser" "begun" "I", Cond.methodLink RX6 273 yX0_forget]
def wsX6_tell_r3 : List Cond := [Cond.instanceMethod yX0_forget, Cond.selects RX0 yX0_forget yX0_forget, Cond.code yX0_forget cX0_forget 1 none, Cond.fieldLink RX0 27 "BlockCard$Eraser" "from" "I", Cond.fieldLink RX0 30 "BlockCard$Eraser" "to" "I", Cond.methodLink RX6 108 yX6_obey, Cond.instanceMethod yX6_obey, Cond.selects RX6 yX6_obey yX6_obey, Cond.code yX6_obey cX6_obey 3 (some .int), Cond.fieldLink RX6 204 "BlockCard" "well" "I", Cond.methodLink RX6 279 yX6_reset, Cond.instanceMethod yX6_reset, Cond.selects RX6 yX6_reset yX6_reset, Cond.code yX6_reset cX6_reset 1 (some .int), Cond.methodLink RX6 72 yX6_tearUnfinished, Cond.instanceMethod yX6_tearUnfinished, Cond.selects RX6 yX6_tearUnfinished yX6_tearUnfinished, Cond.code yX6_tearUnfinished cX6_tearUnfinished 1 none, Cond.fieldLink RX6 31 "BlockCard" "queue" "LBlockCard$Queue;", Cond.fieldLink RX6 10 "BlockCard" "memory" "LBlockCard$Memory;", Cond.methodLink RX6 252 yX4_firstHasBegun, Cond.instanceMethod yX4_firstHasBegun, Cond.selects RX4 yX4_firstHasBegun yX4_firstHasBegun, Cond.initialized RX4]
def wsX6_tell_r4 : List Cond := [Cond.code yX4_firstHasBegun cX4_firstHasBegun 1 (some .boolean), Cond.fieldLink RX4 18 "BlockCard$Queue" "size" "I", Cond.fieldLink RX4 22 "BlockCard$Queue" "ticksOfFirst" "I", Cond.methodLink RX6 178 yX4_tellOf, Cond.instanceMethod yX4_tellOf, Cond.selects RX4 yX4_tellOf yX4_tellOf, Cond.code yX4_tellOf cX4_tellOf 3 (some .int), Cond.fieldLink RX4 9 "BlockCard$Queue" "places" "[I", Cond.fieldLink RX4 15 "BlockCard$Queue" "contents" "[I", Cond.methodLink RX6 255 yX3_tear, Cond.instanceMethod yX3_tear, Cond.selects RX3 yX3_tear yX3_tear, Cond.initialized RX3, Cond.code yX3_tear cX3_tear 2 none, Cond.methodLink RX3 54 yX3_blank, Cond.instanceMethod yX3_blank, Cond.selects RX3 yX3_blank yX3_blank, Cond.code yX3_blank cX3_blank 6 none, Cond.fieldLink RX3 31 "BlockCard$Memory" "size" "I", Cond.methodLink RX3 22 Lib.Math.min.name, Cond.static Lib.Math.min.name, Cond.initialized "java/lang/Math", Cond.code Lib.Math.min.name Lib.Math.min.code 2 (some .int), Cond.methodLink RX3 28 Lib.Math.max.name]
def wsX6_tell_r5 : List Cond := [Cond.static Lib.Math.max.name, Cond.code Lib.Math.max.name Lib.Math.max.code 2 (some .int), Cond.fieldLink RX3 9 "BlockCard$Memory" "contents" "[I", Cond.constant RX3 41 (65535), Cond.fieldLink RX3 15 "BlockCard$Memory" "torn" "[Z", Cond.methodLink RX3 46 yX3_dropWritten, Cond.instanceMethod yX3_dropWritten, Cond.selects RX3 yX3_dropWritten yX3_dropWritten, Cond.code yX3_dropWritten cX3_dropWritten 5 none, Cond.fieldLink RX3 38 "BlockCard$Memory" "writtenCount" "I", Cond.fieldLink RX3 19 "BlockCard$Memory" "written" "[I", Cond.methodLink RX6 258 yX0_groupHasBegun, Cond.instanceMethod yX0_groupHasBegun, Cond.selects RX0 yX0_groupHasBegun yX0_groupHasBegun, Cond.code yX0_groupHasBegun cX0_groupHasBegun 1 (some .boolean), Cond.fieldLink RX0 18 "BlockCard$Eraser" "left" "I", Cond.fieldLink RX0 21 "BlockCard$Eraser" "ticksOfLowest" "I", Cond.methodLink RX6 261 yX0_group, Cond.instanceMethod yX0_group, Cond.selects RX0 yX0_group yX0_group, Cond.code yX0_group cX0_group 1 (some .int), Cond.fieldLink RX0 14 "BlockCard$Eraser" "lowest" "I", Cond.methodLink RX6 264 yX3_tearGroup, Cond.instanceMethod yX3_tearGroup]
def wsX6_tell_r6 : List Cond := [Cond.selects RX3 yX3_tearGroup yX3_tearGroup, Cond.code yX3_tearGroup cX3_tearGroup 2 none, Cond.fieldLink RX3 35 "BlockCard$Memory" "groupSize" "I", Cond.methodLink RX6 69 yX6_start, Cond.instanceMethod yX6_start, Cond.selects RX6 yX6_start yX6_start, Cond.code yX6_start cX6_start 1 none, Cond.fieldLink RX6 25 "BlockCard" "secret" "LBlockCard$Letters;", Cond.methodLink RX6 75 yX6_goDark, Cond.instanceMethod yX6_goDark, Cond.selects RX6 yX6_goDark yX6_goDark, Cond.code yX6_goDark cX6_goDark 1 none, Cond.fieldLink RX6 185 "BlockCard" "address" "I", Cond.fieldLink RX6 244 "BlockCard" "woken" "I", Cond.fieldLink RX6 52 "BlockCard" "link" "LBlockCard$Link;", Cond.fieldLink RX6 45 "BlockCard" "stream" "LBlockCard$Stream;", Cond.methodLink RX6 247 yX2_clear, Cond.instanceMethod yX2_clear, Cond.selects RX2 yX2_clear yX2_clear, Cond.initialized RX2, Cond.code yX2_clear cX2_clear 1 none, Cond.fieldLink RX2 9 "BlockCard$Link" "lines" "I", Cond.fieldLink RX2 15 "BlockCard$Link" "speed" "I", Cond.fieldLink RX2 18 "BlockCard$Link" "point" "I"]
def wsX6_tell_r7 : List Cond := [Cond.methodLink RX6 249 yX4_clear, Cond.instanceMethod yX4_clear, Cond.selects RX4 yX4_clear yX4_clear, Cond.code yX4_clear cX4_clear 1 none, Cond.methodLink RX6 250 yX0_clear, Cond.instanceMethod yX0_clear, Cond.selects RX0 yX0_clear yX0_clear, Cond.code yX0_clear cX0_clear 1 none, Cond.methodLink RX0 9 yX0_forget, Cond.methodLink RX6 251 yX5_clear, Cond.instanceMethod yX5_clear, Cond.selects RX5 yX5_clear yX5_clear, Cond.initialized RX5, Cond.code yX5_clear cX5_clear 1 none, Cond.fieldLink RX5 7 "BlockCard$Stream" "expected" "I", Cond.fieldLink RX5 13 "BlockCard$Stream" "next" "I", Cond.fieldLink RX5 16 "BlockCard$Stream" "left" "I", Cond.fieldLink RX5 19 "BlockCard$Stream" "counted" "Z", Cond.fieldLink RX5 23 "BlockCard$Stream" "wrong" "Z", Cond.methodLink RX6 86 yX1_length, Cond.instanceMethod yX1_length, Cond.selects RX1 yX1_length yX1_length, Cond.initialized RX1, Cond.code yX1_length cX1_length 1 (some .int)]
def wsX6_tell_r8 : List Cond := [Cond.fieldLink RX1 21 "BlockCard$Letters" "length" "I", Cond.methodLink RX6 282 yX6_wake, Cond.instanceMethod yX6_wake, Cond.selects RX6 yX6_wake yX6_wake, Cond.code yX6_wake cX6_wake 1 (some .int), Cond.fieldLink RX6 235 "BlockCard" "idleness" "I", Cond.methodLink RX6 285 yX6_tellNumber, Cond.instanceMethod yX6_tellNumber, Cond.selects RX6 yX6_tellNumber yX6_tellNumber, Cond.code yX6_tellNumber cX6_tellNumber 1 (some .int), Cond.fieldLink RX6 238 "BlockCard" "number" "I", Cond.methodLink RX6 288 yX6_takeAddress, Cond.instanceMethod yX6_takeAddress, Cond.selects RX6 yX6_takeAddress yX6_takeAddress, Cond.code yX6_takeAddress cX6_takeAddress 1 (some .int), Cond.methodLink RX6 291 yX6_choose, Cond.instanceMethod yX6_choose, Cond.selects RX6 yX6_choose yX6_choose, Cond.code yX6_choose cX6_choose 3 (some .int), Cond.methodLink RX6 294 yX6_tellStatus, Cond.instanceMethod yX6_tellStatus, Cond.selects RX6 yX6_tellStatus yX6_tellStatus, Cond.code yX6_tellStatus cX6_tellStatus 3 (some .int), Cond.methodLink RX6 162 yX6_asNumber]
def wsX6_tell_r9 : List Cond := [Cond.static yX6_asNumber, Cond.code yX6_asNumber cX6_asNumber 1 (some .int), Cond.methodLink RX6 297 yX6_switchLines, Cond.instanceMethod yX6_switchLines, Cond.selects RX6 yX6_switchLines yX6_switchLines, Cond.code yX6_switchLines cX6_switchLines 2 (some .int), Cond.methodLink RX6 325 yX2_change, Cond.instanceMethod yX2_change, Cond.selects RX2 yX2_change yX2_change, Cond.code yX2_change cX2_change 3 (some .boolean), Cond.methodLink RX6 191 yX2_speed, Cond.instanceMethod yX2_speed, Cond.selects RX2 yX2_speed yX2_speed, Cond.code yX2_speed cX2_speed 1 (some .int), Cond.methodLink RX6 188 yX2_lines, Cond.instanceMethod yX2_lines, Cond.selects RX2 yX2_lines yX2_lines, Cond.code yX2_lines cX2_lines 1 (some .int), Cond.methodLink RX6 300 yX6_movePoint, Cond.instanceMethod yX6_movePoint, Cond.selects RX6 yX6_movePoint yX6_movePoint, Cond.code yX6_movePoint cX6_movePoint 2 (some .int), Cond.fieldLink RX6 78 "BlockCard" "heat" "I", Cond.methodLink RX6 328 yX2_look]
def wsX6_tell_r10 : List Cond := [Cond.instanceMethod yX2_look, Cond.selects RX2 yX2_look yX2_look, Cond.code yX2_look cX2_look 2 none, Cond.methodLink RX6 132 yX2_isInWindow, Cond.instanceMethod yX2_isInWindow, Cond.selects RX2 yX2_isInWindow yX2_isInWindow, Cond.code yX2_isInWindow cX2_isInWindow 5 (some .boolean), Cond.methodLink RX2 27 Lib.Math.min.name, Cond.methodLink RX2 21 yJ9_floorMod_7cf53, Cond.static yJ9_floorMod_7cf53, Cond.initialized RJ9, Cond.code yJ9_floorMod_7cf53 cJ9_floorMod_7cf53 3 (some .int), Cond.methodLink RX6 303 yX6_expect, Cond.instanceMethod yX6_expect, Cond.selects RX6 yX6_expect yX6_expect, Cond.code yX6_expect cX6_expect 2 (some .int), Cond.methodLink RX6 331 yX5_expect, Cond.instanceMethod yX5_expect, Cond.selects RX5 yX5_expect yX5_expect, Cond.code yX5_expect cX5_expect 2 none, Cond.methodLink RX6 306 yX6_beginStream, Cond.instanceMethod yX6_beginStream, Cond.selects RX6 yX6_beginStream yX6_beginStream, Cond.code yX6_beginStream cX6_beginStream 4 (some .int)]
def wsX6_tell_r11 : List Cond := [Cond.methodLink RX6 123 yX3_has, Cond.instanceMethod yX3_has, Cond.selects RX3 yX3_has yX3_has, Cond.code yX3_has cX3_has 2 (some .boolean), Cond.methodLink RX6 126 yX6_refuse, Cond.instanceMethod yX6_refuse, Cond.selects RX6 yX6_refuse yX6_refuse, Cond.code yX6_refuse cX6_refuse 2 (some .int), Cond.methodLink RX6 333 yX5_begin, Cond.instanceMethod yX5_begin, Cond.selects RX5 yX5_begin yX5_begin, Cond.code yX5_begin cX5_begin 3 none, Cond.methodLink RX6 310 yX6_stop, Cond.instanceMethod yX6_stop, Cond.selects RX6 yX6_stop yX6_stop, Cond.code yX6_stop cX6_stop 2 (some .int), Cond.methodLink RX6 175 yX4_size, Cond.instanceMethod yX4_size, Cond.selects RX4 yX4_size yX4_size, Cond.code yX4_size cX4_size 1 (some .int), Cond.methodLink RX6 313 yX6_eraseFrom, Cond.instanceMethod yX6_eraseFrom, Cond.selects RX6 yX6_eraseFrom yX6_eraseFrom, Cond.code yX6_eraseFrom cX6_eraseFrom 2 (some .int)]
def wsX6_tell_r12 : List Cond := [Cond.methodLink RX6 337 yX0_beginFrom, Cond.instanceMethod yX0_beginFrom, Cond.selects RX0 yX0_beginFrom yX0_beginFrom, Cond.code yX0_beginFrom cX0_beginFrom 2 none, Cond.methodLink RX6 316 yX6_eraseTo, Cond.instanceMethod yX6_eraseTo, Cond.selects RX6 yX6_eraseTo yX6_eraseTo, Cond.code yX6_eraseTo cX6_eraseTo 2 (some .int), Cond.methodLink RX6 340 yX0_continueTo, Cond.instanceMethod yX0_continueTo, Cond.selects RX0 yX0_continueTo yX0_continueTo, Cond.code yX0_continueTo cX0_continueTo 2 (some .boolean), Cond.methodLink RX6 319 yX6_erase, Cond.instanceMethod yX6_erase, Cond.selects RX6 yX6_erase yX6_erase, Cond.code yX6_erase cX6_erase 1 (some .int), Cond.methodLink RX6 343 yX0_isReady, Cond.instanceMethod yX0_isReady, Cond.selects RX0 yX0_isReady yX0_isReady, Cond.code yX0_isReady cX0_isReady 1 (some .boolean), Cond.methodLink RX6 346 yX0_from, Cond.instanceMethod yX0_from, Cond.selects RX0 yX0_from yX0_from, Cond.code yX0_from cX0_from 1 (some .int)]
def wsX6_tell_r13 : List Cond := [Cond.methodLink RX6 166 yX3_groupOf, Cond.instanceMethod yX3_groupOf, Cond.selects RX3 yX3_groupOf yX3_groupOf, Cond.code yX3_groupOf cX3_groupOf 2 (some .int), Cond.methodLink RX6 349 yX0_to, Cond.instanceMethod yX0_to, Cond.selects RX0 yX0_to yX0_to, Cond.code yX0_to cX0_to 1 (some .int), Cond.methodLink RX6 352 yX6_beginErasing, Cond.instanceMethod yX6_beginErasing, Cond.selects RX6 yX6_beginErasing yX6_beginErasing, Cond.code yX6_beginErasing cX6_beginErasing 3 (some .int), Cond.methodLink RX6 355 yX0_begin, Cond.instanceMethod yX0_begin, Cond.selects RX0 yX0_begin yX0_begin, Cond.code yX0_begin cX0_begin 3 none, Cond.methodLink RX6 207 yX0_groupsLeft, Cond.instanceMethod yX0_groupsLeft, Cond.selects RX0 yX0_groupsLeft yX0_groupsLeft, Cond.code yX0_groupsLeft cX0_groupsLeft 1 (some .int), Cond.methodLink RX6 322 yX6_changeLock, Cond.instanceMethod yX6_changeLock, Cond.selects RX6 yX6_changeLock yX6_changeLock, Cond.code yX6_changeLock cX6_changeLock 2 (some .int)]
def wsX6_tell_r14 : List Cond := [Cond.methodLink RX6 357 yX6_unlock, Cond.instanceMethod yX6_unlock, Cond.selects RX6 yX6_unlock yX6_unlock, Cond.code yX6_unlock cX6_unlock 1 (some .int), Cond.methodLink RX6 376 yX6_textIsSecret, Cond.instanceMethod yX6_textIsSecret, Cond.selects RX6 yX6_textIsSecret yX6_textIsSecret, Cond.code yX6_textIsSecret cX6_textIsSecret 1 (some .boolean), Cond.fieldLink RX6 21 "BlockCard" "text" "LBlockCard$Letters;", Cond.methodLink RX6 372 yX1_startsWith, Cond.instanceMethod yX1_startsWith, Cond.selects RX1 yX1_startsWith yX1_startsWith, Cond.code yX1_startsWith cX1_startsWith 3 (some .boolean), Cond.methodLink RX1 25 yX1_at, Cond.instanceMethod yX1_at, Cond.selects RX1 yX1_at yX1_at, Cond.code yX1_at cX1_at 2 (some .int), Cond.fieldLink RX1 15 "BlockCard$Letters" "signs" "[I", Cond.methodLink RX6 360 yX6_setSecret, Cond.instanceMethod yX6_setSecret, Cond.selects RX6 yX6_setSecret yX6_setSecret, Cond.code yX6_setSecret cX6_setSecret 3 (some .int), Cond.methodLink RX6 379 yX1_becomeTail, Cond.instanceMethod yX1_becomeTail]
def wsX6_tell_r15 : List Cond := [Cond.selects RX1 yX1_becomeTail yX1_becomeTail, Cond.code yX1_becomeTail cX1_becomeTail 4 none, Cond.methodLink RX1 29 yX1_empty, Cond.instanceMethod yX1_empty, Cond.selects RX1 yX1_empty yX1_empty, Cond.code yX1_empty cX1_empty 1 none, Cond.methodLink RX1 32 yX1_append, Cond.instanceMethod yX1_append, Cond.selects RX1 yX1_append yX1_append, Cond.code yX1_append cX1_append 2 (some .boolean), Cond.methodLink RX6 363 yX6_clearSecret, Cond.instanceMethod yX6_clearSecret, Cond.selects RX6 yX6_clearSecret yX6_clearSecret, Cond.code yX6_clearSecret cX6_clearSecret 1 (some .int), Cond.methodLink RX6 90 yX1_empty, Cond.methodLink RX6 366 yX6_lock, Cond.instanceMethod yX6_lock, Cond.selects RX6 yX6_lock yX6_lock, Cond.code yX6_lock cX6_lock 1 (some .int), Cond.methodLink RX6 369 yX6_force, Cond.instanceMethod yX6_force, Cond.selects RX6 yX6_force yX6_force, Cond.code yX6_force cX6_force 1 (some .int), Cond.methodLink RX6 181 yX3_size]
def wsX6_tell_r16 : List Cond := [Cond.instanceMethod yX3_size, Cond.selects RX3 yX3_size yX3_size, Cond.code yX3_size cX3_size 1 (some .int)]
def wsX6_tell : List Cond := .code yX6_tell cX6_tell 3 (some .int) :: ((wsX6_tell_r1 ++ (wsX6_tell_r2 ++ (wsX6_tell_r3 ++ (wsX6_tell_r4 ++ (wsX6_tell_r5 ++ (wsX6_tell_r6 ++ (wsX6_tell_r7 ++ (wsX6_tell_r8 ++ (wsX6_tell_r9 ++ (wsX6_tell_r10 ++ (wsX6_tell_r11 ++ (wsX6_tell_r12 ++ (wsX6_tell_r13 ++ (wsX6_tell_r14 ++ (wsX6_tell_r15 ++ wsX6_tell_r16))))))))))))))) ++ wsX60 ++ wsX00 ++ wsX40 ++ wsX30 ++ wsX20 ++ wsX50 ++ wsX10)
def wsX6_give_r1 : List Cond := [Cond.constant RX6 64 (65535), Cond.fieldLink RX6 111 "BlockCard" "state" "I", Cond.fieldLink RX6 45 "BlockCard" "stream" "LBlockCard$Stream;", Cond.fieldLink RX6 10 "BlockCard" "memory" "LBlockCard$Memory;", Cond.fieldLink RX6 31 "BlockCard" "queue" "LBlockCard$Queue;", Cond.fieldLink RX6 52 "BlockCard" "link" "LBlockCard$Link;", Cond.fieldLink RX6 78 "BlockCard" "heat" "I", Cond.methodLink RX6 60 yX6_isOutside, Cond.static yX6_isOutside, Cond.initialized RX6, Cond.code yX6_isOutside cX6_isOutside 3 (some .boolean), Cond.methodLink RX6 114 yX5_isWrong, Cond.instanceMethod yX5_isWrong, Cond.selects RX5 yX5_isWrong yX5_isWrong, Cond.initialized RX5, Cond.code yX5_isWrong cX5_isWrong 1 (some .boolean), Cond.fieldLink RX5 23 "BlockCard$Stream" "wrong" "Z", Cond.methodLink RX6 117 yX5_isComplete, Cond.instanceMethod yX5_isComplete, Cond.selects RX5 yX5_isComplete yX5_isComplete, Cond.code yX5_isComplete cX5_isComplete 1 (some .boolean), Cond.fieldLink RX5 19 "BlockCard$Stream" "counted" "Z", Cond.fieldLink RX5 16 "BlockCard$Stream" "left" "I", Cond.methodLink RX6 120 yX5_next]
def wsX6_give_r2 : List Cond := [Cond.instanceMethod yX5_next, Cond.selects RX5 yX5_next yX5_next, Cond.code yX5_next cX5_next 1 (some .int), Cond.fieldLink RX5 13 "BlockCard$Stream" "next" "I", Cond.methodLink RX6 123 yX3_has, Cond.instanceMethod yX3_has, Cond.selects RX3 yX3_has yX3_has, Cond.initialized RX3, Cond.code yX3_has cX3_has 2 (some .boolean), Cond.fieldLink RX3 31 "BlockCard$Memory" "size" "I", Cond.methodLink RX6 126 yX6_refuse, Cond.instanceMethod yX6_refuse, Cond.selects RX6 yX6_refuse yX6_refuse, Cond.code yX6_refuse cX6_refuse 2 (some .int), Cond.methodLink RX6 135 yX6_note, Cond.instanceMethod yX6_note, Cond.selects RX6 yX6_note yX6_note, Cond.code yX6_note cX6_note 2 none, Cond.fieldLink RX6 201 "BlockCard" "notes" "I", Cond.methodLink RX6 129 yX4_isFull, Cond.instanceMethod yX4_isFull, Cond.selects RX4 yX4_isFull yX4_isFull, Cond.initialized RX4, Cond.code yX4_isFull cX4_isFull 1 (some .boolean)]
def wsX6_give_r3 : List Cond := [Cond.fieldLink RX4 18 "BlockCard$Queue" "size" "I", Cond.methodLink RX6 132 yX2_isInWindow, Cond.instanceMethod yX2_isInWindow, Cond.selects RX2 yX2_isInWindow yX2_isInWindow, Cond.initialized RX2, Cond.code yX2_isInWindow cX2_isInWindow 5 (some .boolean), Cond.fieldLink RX2 15 "BlockCard$Link" "speed" "I", Cond.fieldLink RX2 18 "BlockCard$Link" "point" "I", Cond.methodLink RX2 27 Lib.Math.min.name, Cond.static Lib.Math.min.name, Cond.initialized "java/lang/Math", Cond.code Lib.Math.min.name Lib.Math.min.code 2 (some .int), Cond.methodLink RX2 21 yJ9_floorMod_7cf53, Cond.static yJ9_floorMod_7cf53, Cond.initialized RJ9, Cond.code yJ9_floorMod_7cf53 cJ9_floorMod_7cf53 3 (some .int), Cond.methodLink RX6 101 yX6_contentCheck, Cond.static yX6_contentCheck, Cond.code yX6_contentCheck cX6_contentCheck 1 (some .int), Cond.methodLink RX6 226 yX6_checkOfBits, Cond.static yX6_checkOfBits, Cond.code yX6_checkOfBits cX6_checkOfBits 5 (some .int), Cond.methodLink RX6 138 yX5_spoil, Cond.instanceMethod yX5_spoil]
def wsX6_give_r4 : List Cond := [Cond.selects RX5 yX5_spoil yX5_spoil, Cond.code yX5_spoil cX5_spoil 1 none, Cond.methodLink RX6 141 yX4_append, Cond.instanceMethod yX4_append, Cond.selects RX4 yX4_append yX4_append, Cond.code yX4_append cX4_append 3 none, Cond.fieldLink RX4 9 "BlockCard$Queue" "places" "[I", Cond.fieldLink RX4 15 "BlockCard$Queue" "contents" "[I", Cond.methodLink RX6 144 yX5_advance, Cond.instanceMethod yX5_advance, Cond.selects RX5 yX5_advance yX5_advance, Cond.code yX5_advance cX5_advance 1 none]
def wsX6_give : List Cond := .code yX6_give cX6_give 3 (some .int) :: ((wsX6_give_r1 ++ (wsX6_give_r2 ++ (wsX6_give_r3 ++ wsX6_give_r4))) ++ wsX60 ++ wsX50 ++ wsX30 ++ wsX40 ++ wsX20)
def wsX6_get_r1 : List Cond := [Cond.fieldLink RX6 111 "BlockCard" "state" "I", Cond.fieldLink RX6 45 "BlockCard" "stream" "LBlockCard$Stream;", Cond.fieldLink RX6 52 "BlockCard" "link" "LBlockCard$Link;", Cond.fieldLink RX6 78 "BlockCard" "heat" "I", Cond.fieldLink RX6 10 "BlockCard" "memory" "LBlockCard$Memory;", Cond.methodLink RX6 120 yX5_next, Cond.instanceMethod yX5_next, Cond.selects RX5 yX5_next yX5_next, Cond.initialized RX5, Cond.code yX5_next cX5_next 1 (some .int), Cond.fieldLink RX5 13 "BlockCard$Stream" "next" "I", Cond.methodLink RX6 132 yX2_isInWindow, Cond.instanceMethod yX2_isInWindow, Cond.selects RX2 yX2_isInWindow yX2_isInWindow, Cond.initialized RX2, Cond.code yX2_isInWindow cX2_isInWindow 5 (some .boolean), Cond.fieldLink RX2 15 "BlockCard$Link" "speed" "I", Cond.fieldLink RX2 18 "BlockCard$Link" "point" "I", Cond.methodLink RX2 27 Lib.Math.min.name, Cond.static Lib.Math.min.name, Cond.initialized "java/lang/Math", Cond.code Lib.Math.min.name Lib.Math.min.code 2 (some .int), Cond.methodLink RX2 21 yJ9_floorMod_7cf53, Cond.static yJ9_floorMod_7cf53]
def wsX6_get_r2 : List Cond := [Cond.initialized RJ9, Cond.code yJ9_floorMod_7cf53 cJ9_floorMod_7cf53 3 (some .int), Cond.methodLink RX6 147 yX3_isTorn, Cond.instanceMethod yX3_isTorn, Cond.selects RX3 yX3_isTorn yX3_isTorn, Cond.initialized RX3, Cond.code yX3_isTorn cX3_isTorn 2 (some .boolean), Cond.fieldLink RX3 15 "BlockCard$Memory" "torn" "[Z", Cond.methodLink RX3 42 yX3_has, Cond.instanceMethod yX3_has, Cond.selects RX3 yX3_has yX3_has, Cond.code yX3_has cX3_has 2 (some .boolean), Cond.fieldLink RX3 31 "BlockCard$Memory" "size" "I", Cond.methodLink RX6 144 yX5_advance, Cond.instanceMethod yX5_advance, Cond.selects RX5 yX5_advance yX5_advance, Cond.code yX5_advance cX5_advance 1 none, Cond.fieldLink RX5 16 "BlockCard$Stream" "left" "I", Cond.methodLink RX6 117 yX5_isComplete, Cond.instanceMethod yX5_isComplete, Cond.selects RX5 yX5_isComplete yX5_isComplete, Cond.code yX5_isComplete cX5_isComplete 1 (some .boolean), Cond.fieldLink RX5 19 "BlockCard$Stream" "counted" "Z", Cond.methodLink RX6 123 yX3_has]
def wsX6_get_r3 : List Cond := [Cond.methodLink RX6 150 yX3_contentOf, Cond.instanceMethod yX3_contentOf, Cond.selects RX3 yX3_contentOf yX3_contentOf, Cond.code yX3_contentOf cX3_contentOf 2 (some .int), Cond.fieldLink RX3 9 "BlockCard$Memory" "contents" "[I", Cond.constant RX3 41 (65535)]
def wsX6_get : List Cond := .code yX6_get cX6_get 2 (some .int) :: ((wsX6_get_r1 ++ (wsX6_get_r2 ++ wsX6_get_r3)) ++ wsX60 ++ wsX50 ++ wsX20 ++ wsX30)
def wsX6_writeFurther_r1 : List Cond := [Cond.fieldLink RX6 31 "BlockCard" "queue" "LBlockCard$Queue;", Cond.fieldLink RX6 52 "BlockCard" "link" "LBlockCard$Link;", Cond.fieldLink RX6 10 "BlockCard" "memory" "LBlockCard$Memory;", Cond.fieldLink RX6 204 "BlockCard" "well" "I", Cond.methodLink RX6 389 yX4_tickFirst, Cond.instanceMethod yX4_tickFirst, Cond.selects RX4 yX4_tickFirst yX4_tickFirst, Cond.initialized RX4, Cond.code yX4_tickFirst cX4_tickFirst 1 none, Cond.fieldLink RX4 22 "BlockCard$Queue" "ticksOfFirst" "I", Cond.methodLink RX6 178 yX4_tellOf, Cond.instanceMethod yX4_tellOf, Cond.selects RX4 yX4_tellOf yX4_tellOf, Cond.code yX4_tellOf cX4_tellOf 3 (some .int), Cond.fieldLink RX4 18 "BlockCard$Queue" "size" "I", Cond.fieldLink RX4 9 "BlockCard$Queue" "places" "[I", Cond.fieldLink RX4 15 "BlockCard$Queue" "contents" "[I", Cond.methodLink RX6 392 yX2_ticksOfBlock, Cond.instanceMethod yX2_ticksOfBlock, Cond.selects RX2 yX2_ticksOfBlock yX2_ticksOfBlock, Cond.initialized RX2, Cond.code yX2_ticksOfBlock cX2_ticksOfBlock 1 (some .int), Cond.fieldLink RX2 9 "BlockCard$Link" "lines" "I", Cond.methodLink RX6 395 yX3_put]
def wsX6_writeFurther_r2 : List Cond := [Cond.instanceMethod yX3_put, Cond.selects RX3 yX3_put yX3_put, Cond.initialized RX3, Cond.code yX3_put cX3_put 3 none, Cond.fieldLink RX3 9 "BlockCard$Memory" "contents" "[I", Cond.fieldLink RX3 15 "BlockCard$Memory" "torn" "[Z", Cond.methodLink RX3 42 yX3_has, Cond.instanceMethod yX3_has, Cond.selects RX3 yX3_has yX3_has, Cond.code yX3_has cX3_has 2 (some .boolean), Cond.fieldLink RX3 31 "BlockCard$Memory" "size" "I", Cond.methodLink RX3 46 yX3_dropWritten, Cond.instanceMethod yX3_dropWritten, Cond.selects RX3 yX3_dropWritten yX3_dropWritten, Cond.code yX3_dropWritten cX3_dropWritten 5 none, Cond.fieldLink RX3 38 "BlockCard$Memory" "writtenCount" "I", Cond.fieldLink RX3 19 "BlockCard$Memory" "written" "[I", Cond.methodLink RX3 50 yX3_addWrittenFirst, Cond.instanceMethod yX3_addWrittenFirst, Cond.selects RX3 yX3_addWrittenFirst yX3_addWrittenFirst, Cond.code yX3_addWrittenFirst cX3_addWrittenFirst 3 none, Cond.methodLink RX6 398 yX4_dropFirst, Cond.instanceMethod yX4_dropFirst, Cond.selects RX4 yX4_dropFirst yX4_dropFirst]
def wsX6_writeFurther_r3 : List Cond := [Cond.code yX4_dropFirst cX4_dropFirst 2 none, Cond.methodLink RX4 25 Lib.Math.max.name, Cond.static Lib.Math.max.name, Cond.initialized "java/lang/Math", Cond.code Lib.Math.max.name Lib.Math.max.code 2 (some .int)]
def wsX6_writeFurther : List Cond := .code yX6_writeFurther cX6_writeFurther 1 none :: ((wsX6_writeFurther_r1 ++ (wsX6_writeFurther_r2 ++ wsX6_writeFurther_r3)) ++ wsX60 ++ wsX40 ++ wsX20 ++ wsX30)
def wsX6_eraseFurther_r1 : List Cond := [Cond.fieldLink RX6 38 "BlockCard" "eraser" "LBlockCard$Eraser;", Cond.fieldLink RX6 10 "BlockCard" "memory" "LBlockCard$Memory;", Cond.methodLink RX6 261 yX0_group, Cond.instanceMethod yX0_group, Cond.selects RX0 yX0_group yX0_group, Cond.initialized RX0, Cond.code yX0_group cX0_group 1 (some .int), Cond.fieldLink RX0 14 "BlockCard$Eraser" "lowest" "I", Cond.methodLink RX6 401 yX0_tickGroup, Cond.instanceMethod yX0_tickGroup, Cond.selects RX0 yX0_tickGroup yX0_tickGroup, Cond.code yX0_tickGroup cX0_tickGroup 1 (some .boolean), Cond.fieldLink RX0 21 "BlockCard$Eraser" "ticksOfLowest" "I", Cond.fieldLink RX0 18 "BlockCard$Eraser" "left" "I", Cond.methodLink RX6 404 yX3_eraseGroup, Cond.instanceMethod yX3_eraseGroup, Cond.selects RX3 yX3_eraseGroup yX3_eraseGroup, Cond.initialized RX3, Cond.code yX3_eraseGroup cX3_eraseGroup 2 none, Cond.fieldLink RX3 35 "BlockCard$Memory" "groupSize" "I", Cond.methodLink RX3 54 yX3_blank, Cond.instanceMethod yX3_blank, Cond.selects RX3 yX3_blank yX3_blank, Cond.code yX3_blank cX3_blank 6 none]
def wsX6_eraseFurther_r2 : List Cond := [Cond.fieldLink RX3 31 "BlockCard$Memory" "size" "I", Cond.methodLink RX3 22 Lib.Math.min.name, Cond.static Lib.Math.min.name, Cond.initialized "java/lang/Math", Cond.code Lib.Math.min.name Lib.Math.min.code 2 (some .int), Cond.methodLink RX3 28 Lib.Math.max.name, Cond.static Lib.Math.max.name, Cond.code Lib.Math.max.name Lib.Math.max.code 2 (some .int), Cond.fieldLink RX3 9 "BlockCard$Memory" "contents" "[I", Cond.constant RX3 41 (65535), Cond.fieldLink RX3 15 "BlockCard$Memory" "torn" "[Z", Cond.methodLink RX3 46 yX3_dropWritten, Cond.instanceMethod yX3_dropWritten, Cond.selects RX3 yX3_dropWritten yX3_dropWritten, Cond.code yX3_dropWritten cX3_dropWritten 5 none, Cond.fieldLink RX3 38 "BlockCard$Memory" "writtenCount" "I", Cond.fieldLink RX3 19 "BlockCard$Memory" "written" "[I"]
def wsX6_eraseFurther : List Cond := .code yX6_eraseFurther cX6_eraseFurther 2 none :: ((wsX6_eraseFurther_r1 ++ wsX6_eraseFurther_r2) ++ wsX60 ++ wsX00 ++ wsX30)
def wsX6_work_r1 : List Cond := [Cond.fieldLink RX6 111 "BlockCard" "state" "I", Cond.fieldLink RX6 31 "BlockCard" "queue" "LBlockCard$Queue;", Cond.fieldLink RX6 38 "BlockCard" "eraser" "LBlockCard$Eraser;", Cond.methodLink RX6 175 yX4_size, Cond.instanceMethod yX4_size, Cond.selects RX4 yX4_size yX4_size, Cond.initialized RX4, Cond.code yX4_size cX4_size 1 (some .int), Cond.fieldLink RX4 18 "BlockCard$Queue" "size" "I", Cond.methodLink RX6 383 yX6_writeFurther, Cond.instanceMethod yX6_writeFurther, Cond.selects RX6 yX6_writeFurther yX6_writeFurther, Cond.initialized RX6, Cond.code yX6_writeFurther cX6_writeFurther 1 none, Cond.fieldLink RX6 52 "BlockCard" "link" "LBlockCard$Link;", Cond.fieldLink RX6 10 "BlockCard" "memory" "LBlockCard$Memory;", Cond.fieldLink RX6 204 "BlockCard" "well" "I", Cond.methodLink RX6 389 yX4_tickFirst, Cond.instanceMethod yX4_tickFirst, Cond.selects RX4 yX4_tickFirst yX4_tickFirst, Cond.code yX4_tickFirst cX4_tickFirst 1 none, Cond.fieldLink RX4 22 "BlockCard$Queue" "ticksOfFirst" "I", Cond.methodLink RX6 178 yX4_tellOf, Cond.instanceMethod yX4_tellOf]
def wsX6_work_r2 : List Cond := [Cond.selects RX4 yX4_tellOf yX4_tellOf, Cond.code yX4_tellOf cX4_tellOf 3 (some .int), Cond.fieldLink RX4 9 "BlockCard$Queue" "places" "[I", Cond.fieldLink RX4 15 "BlockCard$Queue" "contents" "[I", Cond.methodLink RX6 392 yX2_ticksOfBlock, Cond.instanceMethod yX2_ticksOfBlock, Cond.selects RX2 yX2_ticksOfBlock yX2_ticksOfBlock, Cond.initialized RX2, Cond.code yX2_ticksOfBlock cX2_ticksOfBlock 1 (some .int), Cond.fieldLink RX2 9 "BlockCard$Link" "lines" "I", Cond.methodLink RX6 395 yX3_put, Cond.instanceMethod yX3_put, Cond.selects RX3 yX3_put yX3_put, Cond.initialized RX3, Cond.code yX3_put cX3_put 3 none, Cond.fieldLink RX3 9 "BlockCard$Memory" "contents" "[I", Cond.fieldLink RX3 15 "BlockCard$Memory" "torn" "[Z", Cond.methodLink RX3 42 yX3_has, Cond.instanceMethod yX3_has, Cond.selects RX3 yX3_has yX3_has, Cond.code yX3_has cX3_has 2 (some .boolean), Cond.fieldLink RX3 31 "BlockCard$Memory" "size" "I", Cond.methodLink RX3 46 yX3_dropWritten, Cond.instanceMethod yX3_dropWritten]
def wsX6_work_r3 : List Cond := [Cond.selects RX3 yX3_dropWritten yX3_dropWritten, Cond.code yX3_dropWritten cX3_dropWritten 5 none, Cond.fieldLink RX3 38 "BlockCard$Memory" "writtenCount" "I", Cond.fieldLink RX3 19 "BlockCard$Memory" "written" "[I", Cond.methodLink RX3 50 yX3_addWrittenFirst, Cond.instanceMethod yX3_addWrittenFirst, Cond.selects RX3 yX3_addWrittenFirst yX3_addWrittenFirst, Cond.code yX3_addWrittenFirst cX3_addWrittenFirst 3 none, Cond.methodLink RX6 398 yX4_dropFirst, Cond.instanceMethod yX4_dropFirst, Cond.selects RX4 yX4_dropFirst yX4_dropFirst, Cond.code yX4_dropFirst cX4_dropFirst 2 none, Cond.methodLink RX4 25 Lib.Math.max.name, Cond.static Lib.Math.max.name, Cond.initialized "java/lang/Math", Cond.code Lib.Math.max.name Lib.Math.max.code 2 (some .int), Cond.methodLink RX6 207 yX0_groupsLeft, Cond.instanceMethod yX0_groupsLeft, Cond.selects RX0 yX0_groupsLeft yX0_groupsLeft, Cond.initialized RX0, Cond.code yX0_groupsLeft cX0_groupsLeft 1 (some .int), Cond.fieldLink RX0 18 "BlockCard$Eraser" "left" "I", Cond.methodLink RX6 386 yX6_eraseFurther, Cond.instanceMethod yX6_eraseFurther]
def wsX6_work_r4 : List Cond := [Cond.selects RX6 yX6_eraseFurther yX6_eraseFurther, Cond.code yX6_eraseFurther cX6_eraseFurther 2 none, Cond.methodLink RX6 261 yX0_group, Cond.instanceMethod yX0_group, Cond.selects RX0 yX0_group yX0_group, Cond.code yX0_group cX0_group 1 (some .int), Cond.fieldLink RX0 14 "BlockCard$Eraser" "lowest" "I", Cond.methodLink RX6 401 yX0_tickGroup, Cond.instanceMethod yX0_tickGroup, Cond.selects RX0 yX0_tickGroup yX0_tickGroup, Cond.code yX0_tickGroup cX0_tickGroup 1 (some .boolean), Cond.fieldLink RX0 21 "BlockCard$Eraser" "ticksOfLowest" "I", Cond.methodLink RX6 404 yX3_eraseGroup, Cond.instanceMethod yX3_eraseGroup, Cond.selects RX3 yX3_eraseGroup yX3_eraseGroup, Cond.code yX3_eraseGroup cX3_eraseGroup 2 none, Cond.fieldLink RX3 35 "BlockCard$Memory" "groupSize" "I", Cond.methodLink RX3 54 yX3_blank, Cond.instanceMethod yX3_blank, Cond.selects RX3 yX3_blank yX3_blank, Cond.code yX3_blank cX3_blank 6 none, Cond.methodLink RX3 22 Lib.Math.min.name, Cond.static Lib.Math.min.name, Cond.code Lib.Math.min.name Lib.Math.min.code 2 (some .int)]
def wsX6_work_r5 : List Cond := [Cond.methodLink RX3 28 Lib.Math.max.name, Cond.constant RX3 41 (65535)]
def wsX6_work : List Cond := .code yX6_work cX6_work 1 none :: ((wsX6_work_r1 ++ (wsX6_work_r2 ++ (wsX6_work_r3 ++ (wsX6_work_r4 ++ wsX6_work_r5)))) ++ wsX60 ++ wsX40 ++ wsX20 ++ wsX30 ++ wsX00)
def wsX6_tick_r1 : List Cond := [Cond.fieldLink RX6 153 "BlockCard" "ticks" "I", Cond.methodLink RX6 60 yX6_isOutside, Cond.static yX6_isOutside, Cond.initialized RX6, Cond.code yX6_isOutside cX6_isOutside 3 (some .boolean), Cond.methodLink RX6 156 yX6_work, Cond.instanceMethod yX6_work, Cond.selects RX6 yX6_work yX6_work, Cond.code yX6_work cX6_work 1 none, Cond.fieldLink RX6 111 "BlockCard" "state" "I", Cond.fieldLink RX6 31 "BlockCard" "queue" "LBlockCard$Queue;", Cond.fieldLink RX6 38 "BlockCard" "eraser" "LBlockCard$Eraser;", Cond.methodLink RX6 175 yX4_size, Cond.instanceMethod yX4_size, Cond.selects RX4 yX4_size yX4_size, Cond.initialized RX4, Cond.code yX4_size cX4_size 1 (some .int), Cond.fieldLink RX4 18 "BlockCard$Queue" "size" "I", Cond.methodLink RX6 383 yX6_writeFurther, Cond.instanceMethod yX6_writeFurther, Cond.selects RX6 yX6_writeFurther yX6_writeFurther, Cond.code yX6_writeFurther cX6_writeFurther 1 none, Cond.fieldLink RX6 52 "BlockCard" "link" "LBlockCard$Link;", Cond.fieldLink RX6 10 "BlockCard" "memory" "LBlockCard$Memory;"]
def wsX6_tick_r2 : List Cond := [Cond.fieldLink RX6 204 "BlockCard" "well" "I", Cond.methodLink RX6 389 yX4_tickFirst, Cond.instanceMethod yX4_tickFirst, Cond.selects RX4 yX4_tickFirst yX4_tickFirst, Cond.code yX4_tickFirst cX4_tickFirst 1 none, Cond.fieldLink RX4 22 "BlockCard$Queue" "ticksOfFirst" "I", Cond.methodLink RX6 178 yX4_tellOf, Cond.instanceMethod yX4_tellOf, Cond.selects RX4 yX4_tellOf yX4_tellOf, Cond.code yX4_tellOf cX4_tellOf 3 (some .int), Cond.fieldLink RX4 9 "BlockCard$Queue" "places" "[I", Cond.fieldLink RX4 15 "BlockCard$Queue" "contents" "[I", Cond.methodLink RX6 392 yX2_ticksOfBlock, Cond.instanceMethod yX2_ticksOfBlock, Cond.selects RX2 yX2_ticksOfBlock yX2_ticksOfBlock, Cond.initialized RX2, Cond.code yX2_ticksOfBlock cX2_ticksOfBlock 1 (some .int), Cond.fieldLink RX2 9 "BlockCard$Link" "lines" "I", Cond.methodLink RX6 395 yX3_put, Cond.instanceMethod yX3_put, Cond.selects RX3 yX3_put yX3_put, Cond.initialized RX3, Cond.code yX3_put cX3_put 3 none, Cond.fieldLink RX3 9 "BlockCard$Memory" "contents" "[I"]
def wsX6_tick_r3 : List Cond := [Cond.fieldLink RX3 15 "BlockCard$Memory" "torn" "[Z", Cond.methodLink RX3 42 yX3_has, Cond.instanceMethod yX3_has, Cond.selects RX3 yX3_has yX3_has, Cond.code yX3_has cX3_has 2 (some .boolean), Cond.fieldLink RX3 31 "BlockCard$Memory" "size" "I", Cond.methodLink RX3 46 yX3_dropWritten, Cond.instanceMethod yX3_dropWritten, Cond.selects RX3 yX3_dropWritten yX3_dropWritten, Cond.code yX3_dropWritten cX3_dropWritten 5 none, Cond.fieldLink RX3 38 "BlockCard$Memory" "writtenCount" "I", Cond.fieldLink RX3 19 "BlockCard$Memory" "written" "[I", Cond.methodLink RX3 50 yX3_addWrittenFirst, Cond.instanceMethod yX3_addWrittenFirst, Cond.selects RX3 yX3_addWrittenFirst yX3_addWrittenFirst, Cond.code yX3_addWrittenFirst cX3_addWrittenFirst 3 none, Cond.methodLink RX6 398 yX4_dropFirst, Cond.instanceMethod yX4_dropFirst, Cond.selects RX4 yX4_dropFirst yX4_dropFirst, Cond.code yX4_dropFirst cX4_dropFirst 2 none, Cond.methodLink RX4 25 Lib.Math.max.name, Cond.static Lib.Math.max.name, Cond.initialized "java/lang/Math", Cond.code Lib.Math.max.name Lib.Math.max.code 2 (some .int)]
def wsX6_tick_r4 : List Cond := [Cond.methodLink RX6 207 yX0_groupsLeft, Cond.instanceMethod yX0_groupsLeft, Cond.selects RX0 yX0_groupsLeft yX0_groupsLeft, Cond.initialized RX0, Cond.code yX0_groupsLeft cX0_groupsLeft 1 (some .int), Cond.fieldLink RX0 18 "BlockCard$Eraser" "left" "I", Cond.methodLink RX6 386 yX6_eraseFurther, Cond.instanceMethod yX6_eraseFurther, Cond.selects RX6 yX6_eraseFurther yX6_eraseFurther, Cond.code yX6_eraseFurther cX6_eraseFurther 2 none, Cond.methodLink RX6 261 yX0_group, Cond.instanceMethod yX0_group, Cond.selects RX0 yX0_group yX0_group, Cond.code yX0_group cX0_group 1 (some .int), Cond.fieldLink RX0 14 "BlockCard$Eraser" "lowest" "I", Cond.methodLink RX6 401 yX0_tickGroup, Cond.instanceMethod yX0_tickGroup, Cond.selects RX0 yX0_tickGroup yX0_tickGroup, Cond.code yX0_tickGroup cX0_tickGroup 1 (some .boolean), Cond.fieldLink RX0 21 "BlockCard$Eraser" "ticksOfLowest" "I", Cond.methodLink RX6 404 yX3_eraseGroup, Cond.instanceMethod yX3_eraseGroup, Cond.selects RX3 yX3_eraseGroup yX3_eraseGroup, Cond.code yX3_eraseGroup cX3_eraseGroup 2 none]
def wsX6_tick_r5 : List Cond := [Cond.fieldLink RX3 35 "BlockCard$Memory" "groupSize" "I", Cond.methodLink RX3 54 yX3_blank, Cond.instanceMethod yX3_blank, Cond.selects RX3 yX3_blank yX3_blank, Cond.code yX3_blank cX3_blank 6 none, Cond.methodLink RX3 22 Lib.Math.min.name, Cond.static Lib.Math.min.name, Cond.code Lib.Math.min.name Lib.Math.min.code 2 (some .int), Cond.methodLink RX3 28 Lib.Math.max.name, Cond.constant RX3 41 (65535)]
def wsX6_tick : List Cond := .code yX6_tick cX6_tick 3 (some .int) :: ((wsX6_tick_r1 ++ (wsX6_tick_r2 ++ (wsX6_tick_r3 ++ (wsX6_tick_r4 ++ wsX6_tick_r5)))) ++ wsX60 ++ wsX40 ++ wsX20 ++ wsX30 ++ wsX00)
def wsX6_rowLength : List Cond := .code yX6_rowLength cX6_rowLength 3 (some .int) :: ([])
def wsX6_middleOfLongestRow : List Cond := .code yX6_middleOfLongestRow cX6_middleOfLongestRow 5 (some .int) :: ([.methodLink RX6 232 yX6_rowLength, .static yX6_rowLength, .initialized RX6, .code yX6_rowLength cX6_rowLength 3 (some .int)])
def wsX6_tune_r1 : List Cond := [Cond.methodLink RX6 97 yX6_commandCheck, Cond.static yX6_commandCheck, Cond.initialized RX6, Cond.code yX6_commandCheck cX6_commandCheck 2 (some .int), Cond.constant RX6 225 (65536), Cond.methodLink RX6 226 yX6_checkOfBits, Cond.static yX6_checkOfBits, Cond.code yX6_checkOfBits cX6_checkOfBits 5 (some .int), Cond.methodLink RX6 105 yX6_hears, Cond.instanceMethod yX6_hears, Cond.selects RX6 yX6_hears yX6_hears, Cond.code yX6_hears cX6_hears 4 (some .boolean), Cond.fieldLink RX6 38 "BlockCard" "eraser" "LBlockCard$Eraser;", Cond.methodLink RX6 65 yX6_isPowered, Cond.instanceMethod yX6_isPowered, Cond.selects RX6 yX6_isPowered yX6_isPowered, Cond.code yX6_isPowered cX6_isPowered 1 (some .boolean), Cond.fieldLink RX6 111 "BlockCard" "state" "I", Cond.methodLink RX6 135 yX6_note, Cond.instanceMethod yX6_note, Cond.selects RX6 yX6_note yX6_note, Cond.code yX6_note cX6_note 2 none, Cond.fieldLink RX6 201 "BlockCard" "notes" "I", Cond.methodLink RX6 267 yX6_isOpenTo]
def wsX6_tune_r2 : List Cond := [Cond.instanceMethod yX6_isOpenTo, Cond.selects RX6 yX6_isOpenTo yX6_isOpenTo, Cond.code yX6_isOpenTo cX6_isOpenTo 2 (some .boolean), Cond.fieldLink RX6 197 "BlockCard" "locked" "Z", Cond.methodLink RX6 229 yX6_isBarredByLock, Cond.static yX6_isBarredByLock, Cond.code yX6_isBarredByLock cX6_isBarredByLock 1 (some .boolean), Cond.methodLink RX6 276 yX6_statesOf, Cond.static yX6_statesOf, Cond.code yX6_statesOf cX6_statesOf 1 (some .int), Cond.methodLink RX6 270 yX0_isBrokenOffBy, Cond.instanceMethod yX0_isBrokenOffBy, Cond.selects RX0 yX0_isBrokenOffBy yX0_isBrokenOffBy, Cond.initialized RX0, Cond.code yX0_isBrokenOffBy cX0_isBrokenOffBy 3 (some .boolean), Cond.fieldLink RX0 24 "BlockCard$Eraser" "begun" "I", Cond.methodLink RX6 273 yX0_forget, Cond.instanceMethod yX0_forget, Cond.selects RX0 yX0_forget yX0_forget, Cond.code yX0_forget cX0_forget 1 none, Cond.fieldLink RX0 27 "BlockCard$Eraser" "from" "I", Cond.fieldLink RX0 30 "BlockCard$Eraser" "to" "I", Cond.methodLink RX6 108 yX6_obey, Cond.instanceMethod yX6_obey]
def wsX6_tune_r3 : List Cond := [Cond.selects RX6 yX6_obey yX6_obey, Cond.code yX6_obey cX6_obey 3 (some .int), Cond.fieldLink RX6 204 "BlockCard" "well" "I", Cond.methodLink RX6 279 yX6_reset, Cond.instanceMethod yX6_reset, Cond.selects RX6 yX6_reset yX6_reset, Cond.code yX6_reset cX6_reset 1 (some .int), Cond.methodLink RX6 72 yX6_tearUnfinished, Cond.instanceMethod yX6_tearUnfinished, Cond.selects RX6 yX6_tearUnfinished yX6_tearUnfinished, Cond.code yX6_tearUnfinished cX6_tearUnfinished 1 none, Cond.fieldLink RX6 31 "BlockCard" "queue" "LBlockCard$Queue;", Cond.fieldLink RX6 10 "BlockCard" "memory" "LBlockCard$Memory;", Cond.methodLink RX6 252 yX4_firstHasBegun, Cond.instanceMethod yX4_firstHasBegun, Cond.selects RX4 yX4_firstHasBegun yX4_firstHasBegun, Cond.initialized RX4, Cond.code yX4_firstHasBegun cX4_firstHasBegun 1 (some .boolean), Cond.fieldLink RX4 18 "BlockCard$Queue" "size" "I", Cond.fieldLink RX4 22 "BlockCard$Queue" "ticksOfFirst" "I", Cond.methodLink RX6 178 yX4_tellOf, Cond.instanceMethod yX4_tellOf, Cond.selects RX4 yX4_tellOf yX4_tellOf, Cond.code yX4_tellOf cX4_tellOf 3 (some .int)]
def wsX6_tune_r4 : List Cond := [Cond.fieldLink RX4 9 "BlockCard$Queue" "places" "[I", Cond.fieldLink RX4 15 "BlockCard$Queue" "contents" "[I", Cond.methodLink RX6 255 yX3_tear, Cond.instanceMethod yX3_tear, Cond.selects RX3 yX3_tear yX3_tear, Cond.initialized RX3, Cond.code yX3_tear cX3_tear 2 none, Cond.methodLink RX3 54 yX3_blank, Cond.instanceMethod yX3_blank, Cond.selects RX3 yX3_blank yX3_blank, Cond.code yX3_blank cX3_blank 6 none, Cond.fieldLink RX3 31 "BlockCard$Memory" "size" "I", Cond.methodLink RX3 22 Lib.Math.min.name, Cond.static Lib.Math.min.name, Cond.initialized "java/lang/Math", Cond.code Lib.Math.min.name Lib.Math.min.code 2 (some .int), Cond.methodLink RX3 28 Lib.Math.max.name, Cond.static Lib.Math.max.name, Cond.code Lib.Math.max.name Lib.Math.max.code 2 (some .int), Cond.fieldLink RX3 9 "BlockCard$Memory" "contents" "[I", Cond.constant RX3 41 (65535), Cond.fieldLink RX3 15 "BlockCard$Memory" "torn" "[Z", Cond.methodLink RX3 46 yX3_dropWritten, Cond.instanceMethod yX3_dropWritten]
def wsX6_tune_r5 : List Cond := [Cond.selects RX3 yX3_dropWritten yX3_dropWritten, Cond.code yX3_dropWritten cX3_dropWritten 5 none, Cond.fieldLink RX3 38 "BlockCard$Memory" "writtenCount" "I", Cond.fieldLink RX3 19 "BlockCard$Memory" "written" "[I", Cond.methodLink RX6 258 yX0_groupHasBegun, Cond.instanceMethod yX0_groupHasBegun, Cond.selects RX0 yX0_groupHasBegun yX0_groupHasBegun, Cond.code yX0_groupHasBegun cX0_groupHasBegun 1 (some .boolean), Cond.fieldLink RX0 18 "BlockCard$Eraser" "left" "I", Cond.fieldLink RX0 21 "BlockCard$Eraser" "ticksOfLowest" "I", Cond.methodLink RX6 261 yX0_group, Cond.instanceMethod yX0_group, Cond.selects RX0 yX0_group yX0_group, Cond.code yX0_group cX0_group 1 (some .int), Cond.fieldLink RX0 14 "BlockCard$Eraser" "lowest" "I", Cond.methodLink RX6 264 yX3_tearGroup, Cond.instanceMethod yX3_tearGroup, Cond.selects RX3 yX3_tearGroup yX3_tearGroup, Cond.code yX3_tearGroup cX3_tearGroup 2 none, Cond.fieldLink RX3 35 "BlockCard$Memory" "groupSize" "I", Cond.methodLink RX6 69 yX6_start, Cond.instanceMethod yX6_start, Cond.selects RX6 yX6_start yX6_start, Cond.code yX6_start cX6_start 1 none]
def wsX6_tune_r6 : List Cond := [Cond.fieldLink RX6 25 "BlockCard" "secret" "LBlockCard$Letters;", Cond.methodLink RX6 75 yX6_goDark, Cond.instanceMethod yX6_goDark, Cond.selects RX6 yX6_goDark yX6_goDark, Cond.code yX6_goDark cX6_goDark 1 none, Cond.fieldLink RX6 185 "BlockCard" "address" "I", Cond.fieldLink RX6 244 "BlockCard" "woken" "I", Cond.fieldLink RX6 52 "BlockCard" "link" "LBlockCard$Link;", Cond.fieldLink RX6 45 "BlockCard" "stream" "LBlockCard$Stream;", Cond.methodLink RX6 247 yX2_clear, Cond.instanceMethod yX2_clear, Cond.selects RX2 yX2_clear yX2_clear, Cond.initialized RX2, Cond.code yX2_clear cX2_clear 1 none, Cond.fieldLink RX2 9 "BlockCard$Link" "lines" "I", Cond.fieldLink RX2 15 "BlockCard$Link" "speed" "I", Cond.fieldLink RX2 18 "BlockCard$Link" "point" "I", Cond.methodLink RX6 249 yX4_clear, Cond.instanceMethod yX4_clear, Cond.selects RX4 yX4_clear yX4_clear, Cond.code yX4_clear cX4_clear 1 none, Cond.methodLink RX6 250 yX0_clear, Cond.instanceMethod yX0_clear, Cond.selects RX0 yX0_clear yX0_clear]
def wsX6_tune_r7 : List Cond := [Cond.code yX0_clear cX0_clear 1 none, Cond.methodLink RX0 9 yX0_forget, Cond.methodLink RX6 251 yX5_clear, Cond.instanceMethod yX5_clear, Cond.selects RX5 yX5_clear yX5_clear, Cond.initialized RX5, Cond.code yX5_clear cX5_clear 1 none, Cond.fieldLink RX5 7 "BlockCard$Stream" "expected" "I", Cond.fieldLink RX5 13 "BlockCard$Stream" "next" "I", Cond.fieldLink RX5 16 "BlockCard$Stream" "left" "I", Cond.fieldLink RX5 19 "BlockCard$Stream" "counted" "Z", Cond.fieldLink RX5 23 "BlockCard$Stream" "wrong" "Z", Cond.methodLink RX6 86 yX1_length, Cond.instanceMethod yX1_length, Cond.selects RX1 yX1_length yX1_length, Cond.initialized RX1, Cond.code yX1_length cX1_length 1 (some .int), Cond.fieldLink RX1 21 "BlockCard$Letters" "length" "I", Cond.methodLink RX6 282 yX6_wake, Cond.instanceMethod yX6_wake, Cond.selects RX6 yX6_wake yX6_wake, Cond.code yX6_wake cX6_wake 1 (some .int), Cond.fieldLink RX6 235 "BlockCard" "idleness" "I", Cond.methodLink RX6 285 yX6_tellNumber]
def wsX6_tune_r8 : List Cond := [Cond.instanceMethod yX6_tellNumber, Cond.selects RX6 yX6_tellNumber yX6_tellNumber, Cond.code yX6_tellNumber cX6_tellNumber 1 (some .int), Cond.fieldLink RX6 238 "BlockCard" "number" "I", Cond.methodLink RX6 288 yX6_takeAddress, Cond.instanceMethod yX6_takeAddress, Cond.selects RX6 yX6_takeAddress yX6_takeAddress, Cond.code yX6_takeAddress cX6_takeAddress 1 (some .int), Cond.methodLink RX6 291 yX6_choose, Cond.instanceMethod yX6_choose, Cond.selects RX6 yX6_choose yX6_choose, Cond.code yX6_choose cX6_choose 3 (some .int), Cond.methodLink RX6 294 yX6_tellStatus, Cond.instanceMethod yX6_tellStatus, Cond.selects RX6 yX6_tellStatus yX6_tellStatus, Cond.code yX6_tellStatus cX6_tellStatus 3 (some .int), Cond.methodLink RX6 162 yX6_asNumber, Cond.static yX6_asNumber, Cond.code yX6_asNumber cX6_asNumber 1 (some .int), Cond.methodLink RX6 297 yX6_switchLines, Cond.instanceMethod yX6_switchLines, Cond.selects RX6 yX6_switchLines yX6_switchLines, Cond.code yX6_switchLines cX6_switchLines 2 (some .int), Cond.methodLink RX6 325 yX2_change]
def wsX6_tune_r9 : List Cond := [Cond.instanceMethod yX2_change, Cond.selects RX2 yX2_change yX2_change, Cond.code yX2_change cX2_change 3 (some .boolean), Cond.methodLink RX6 191 yX2_speed, Cond.instanceMethod yX2_speed, Cond.selects RX2 yX2_speed yX2_speed, Cond.code yX2_speed cX2_speed 1 (some .int), Cond.methodLink RX6 188 yX2_lines, Cond.instanceMethod yX2_lines, Cond.selects RX2 yX2_lines yX2_lines, Cond.code yX2_lines cX2_lines 1 (some .int), Cond.methodLink RX6 300 yX6_movePoint, Cond.instanceMethod yX6_movePoint, Cond.selects RX6 yX6_movePoint yX6_movePoint, Cond.code yX6_movePoint cX6_movePoint 2 (some .int), Cond.fieldLink RX6 78 "BlockCard" "heat" "I", Cond.methodLink RX6 328 yX2_look, Cond.instanceMethod yX2_look, Cond.selects RX2 yX2_look yX2_look, Cond.code yX2_look cX2_look 2 none, Cond.methodLink RX6 132 yX2_isInWindow, Cond.instanceMethod yX2_isInWindow, Cond.selects RX2 yX2_isInWindow yX2_isInWindow, Cond.code yX2_isInWindow cX2_isInWindow 5 (some .boolean)]
def wsX6_tune_r10 : List Cond := [Cond.methodLink RX2 27 Lib.Math.min.name, Cond.methodLink RX2 21 yJ9_floorMod_7cf53, Cond.static yJ9_floorMod_7cf53, Cond.initialized RJ9, Cond.code yJ9_floorMod_7cf53 cJ9_floorMod_7cf53 3 (some .int), Cond.methodLink RX6 303 yX6_expect, Cond.instanceMethod yX6_expect, Cond.selects RX6 yX6_expect yX6_expect, Cond.code yX6_expect cX6_expect 2 (some .int), Cond.methodLink RX6 331 yX5_expect, Cond.instanceMethod yX5_expect, Cond.selects RX5 yX5_expect yX5_expect, Cond.code yX5_expect cX5_expect 2 none, Cond.methodLink RX6 306 yX6_beginStream, Cond.instanceMethod yX6_beginStream, Cond.selects RX6 yX6_beginStream yX6_beginStream, Cond.code yX6_beginStream cX6_beginStream 4 (some .int), Cond.methodLink RX6 123 yX3_has, Cond.instanceMethod yX3_has, Cond.selects RX3 yX3_has yX3_has, Cond.code yX3_has cX3_has 2 (some .boolean), Cond.methodLink RX6 126 yX6_refuse, Cond.instanceMethod yX6_refuse, Cond.selects RX6 yX6_refuse yX6_refuse]
def wsX6_tune_r11 : List Cond := [Cond.code yX6_refuse cX6_refuse 2 (some .int), Cond.methodLink RX6 333 yX5_begin, Cond.instanceMethod yX5_begin, Cond.selects RX5 yX5_begin yX5_begin, Cond.code yX5_begin cX5_begin 3 none, Cond.methodLink RX6 310 yX6_stop, Cond.instanceMethod yX6_stop, Cond.selects RX6 yX6_stop yX6_stop, Cond.code yX6_stop cX6_stop 2 (some .int), Cond.methodLink RX6 175 yX4_size, Cond.instanceMethod yX4_size, Cond.selects RX4 yX4_size yX4_size, Cond.code yX4_size cX4_size 1 (some .int), Cond.methodLink RX6 313 yX6_eraseFrom, Cond.instanceMethod yX6_eraseFrom, Cond.selects RX6 yX6_eraseFrom yX6_eraseFrom, Cond.code yX6_eraseFrom cX6_eraseFrom 2 (some .int), Cond.methodLink RX6 337 yX0_beginFrom, Cond.instanceMethod yX0_beginFrom, Cond.selects RX0 yX0_beginFrom yX0_beginFrom, Cond.code yX0_beginFrom cX0_beginFrom 2 none, Cond.methodLink RX6 316 yX6_eraseTo, Cond.instanceMethod yX6_eraseTo, Cond.selects RX6 yX6_eraseTo yX6_eraseTo]
def wsX6_tune_r12 : List Cond := [Cond.code yX6_eraseTo cX6_eraseTo 2 (some .int), Cond.methodLink RX6 340 yX0_continueTo, Cond.instanceMethod yX0_continueTo, Cond.selects RX0 yX0_continueTo yX0_continueTo, Cond.code yX0_continueTo cX0_continueTo 2 (some .boolean), Cond.methodLink RX6 319 yX6_erase, Cond.instanceMethod yX6_erase, Cond.selects RX6 yX6_erase yX6_erase, Cond.code yX6_erase cX6_erase 1 (some .int), Cond.methodLink RX6 343 yX0_isReady, Cond.instanceMethod yX0_isReady, Cond.selects RX0 yX0_isReady yX0_isReady, Cond.code yX0_isReady cX0_isReady 1 (some .boolean), Cond.methodLink RX6 346 yX0_from, Cond.instanceMethod yX0_from, Cond.selects RX0 yX0_from yX0_from, Cond.code yX0_from cX0_from 1 (some .int), Cond.methodLink RX6 166 yX3_groupOf, Cond.instanceMethod yX3_groupOf, Cond.selects RX3 yX3_groupOf yX3_groupOf, Cond.code yX3_groupOf cX3_groupOf 2 (some .int), Cond.methodLink RX6 349 yX0_to, Cond.instanceMethod yX0_to, Cond.selects RX0 yX0_to yX0_to]
def wsX6_tune_r13 : List Cond := [Cond.code yX0_to cX0_to 1 (some .int), Cond.methodLink RX6 352 yX6_beginErasing, Cond.instanceMethod yX6_beginErasing, Cond.selects RX6 yX6_beginErasing yX6_beginErasing, Cond.code yX6_beginErasing cX6_beginErasing 3 (some .int), Cond.methodLink RX6 355 yX0_begin, Cond.instanceMethod yX0_begin, Cond.selects RX0 yX0_begin yX0_begin, Cond.code yX0_begin cX0_begin 3 none, Cond.methodLink RX6 207 yX0_groupsLeft, Cond.instanceMethod yX0_groupsLeft, Cond.selects RX0 yX0_groupsLeft yX0_groupsLeft, Cond.code yX0_groupsLeft cX0_groupsLeft 1 (some .int), Cond.methodLink RX6 322 yX6_changeLock, Cond.instanceMethod yX6_changeLock, Cond.selects RX6 yX6_changeLock yX6_changeLock, Cond.code yX6_changeLock cX6_changeLock 2 (some .int), Cond.methodLink RX6 357 yX6_unlock, Cond.instanceMethod yX6_unlock, Cond.selects RX6 yX6_unlock yX6_unlock, Cond.code yX6_unlock cX6_unlock 1 (some .int), Cond.methodLink RX6 376 yX6_textIsSecret, Cond.instanceMethod yX6_textIsSecret, Cond.selects RX6 yX6_textIsSecret yX6_textIsSecret]
def wsX6_tune_r14 : List Cond := [Cond.code yX6_textIsSecret cX6_textIsSecret 1 (some .boolean), Cond.fieldLink RX6 21 "BlockCard" "text" "LBlockCard$Letters;", Cond.methodLink RX6 372 yX1_startsWith, Cond.instanceMethod yX1_startsWith, Cond.selects RX1 yX1_startsWith yX1_startsWith, Cond.code yX1_startsWith cX1_startsWith 3 (some .boolean), Cond.methodLink RX1 25 yX1_at, Cond.instanceMethod yX1_at, Cond.selects RX1 yX1_at yX1_at, Cond.code yX1_at cX1_at 2 (some .int), Cond.fieldLink RX1 15 "BlockCard$Letters" "signs" "[I", Cond.methodLink RX6 360 yX6_setSecret, Cond.instanceMethod yX6_setSecret, Cond.selects RX6 yX6_setSecret yX6_setSecret, Cond.code yX6_setSecret cX6_setSecret 3 (some .int), Cond.methodLink RX6 60 yX6_isOutside, Cond.static yX6_isOutside, Cond.code yX6_isOutside cX6_isOutside 3 (some .boolean), Cond.methodLink RX6 379 yX1_becomeTail, Cond.instanceMethod yX1_becomeTail, Cond.selects RX1 yX1_becomeTail yX1_becomeTail, Cond.code yX1_becomeTail cX1_becomeTail 4 none, Cond.methodLink RX1 29 yX1_empty, Cond.instanceMethod yX1_empty]
def wsX6_tune_r15 : List Cond := [Cond.selects RX1 yX1_empty yX1_empty, Cond.code yX1_empty cX1_empty 1 none, Cond.methodLink RX1 32 yX1_append, Cond.instanceMethod yX1_append, Cond.selects RX1 yX1_append yX1_append, Cond.code yX1_append cX1_append 2 (some .boolean), Cond.methodLink RX6 363 yX6_clearSecret, Cond.instanceMethod yX6_clearSecret, Cond.selects RX6 yX6_clearSecret yX6_clearSecret, Cond.code yX6_clearSecret cX6_clearSecret 1 (some .int), Cond.methodLink RX6 90 yX1_empty, Cond.methodLink RX6 366 yX6_lock, Cond.instanceMethod yX6_lock, Cond.selects RX6 yX6_lock yX6_lock, Cond.code yX6_lock cX6_lock 1 (some .int), Cond.methodLink RX6 369 yX6_force, Cond.instanceMethod yX6_force, Cond.selects RX6 yX6_force yX6_force, Cond.code yX6_force cX6_force 1 (some .int), Cond.methodLink RX6 181 yX3_size, Cond.instanceMethod yX3_size, Cond.selects RX3 yX3_size yX3_size, Cond.code yX3_size cX3_size 1 (some .int), Cond.methodLink RX6 159 yX6_middleOfLongestRow]
def wsX6_tune_r16 : List Cond := [Cond.static yX6_middleOfLongestRow, Cond.code yX6_middleOfLongestRow cX6_middleOfLongestRow 5 (some .int), Cond.methodLink RX6 232 yX6_rowLength, Cond.static yX6_rowLength, Cond.code yX6_rowLength cX6_rowLength 3 (some .int)]
def wsX6_tune : List Cond := .code yX6_tune cX6_tune 3 (some .int) :: ((wsX6_tune_r1 ++ (wsX6_tune_r2 ++ (wsX6_tune_r3 ++ (wsX6_tune_r4 ++ (wsX6_tune_r5 ++ (wsX6_tune_r6 ++ (wsX6_tune_r7 ++ (wsX6_tune_r8 ++ (wsX6_tune_r9 ++ (wsX6_tune_r10 ++ (wsX6_tune_r11 ++ (wsX6_tune_r12 ++ (wsX6_tune_r13 ++ (wsX6_tune_r14 ++ (wsX6_tune_r15 ++ wsX6_tune_r16))))))))))))))) ++ wsX60 ++ wsX00 ++ wsX40 ++ wsX30 ++ wsX20 ++ wsX50 ++ wsX10)
def wsX6_block_r1 : List Cond := [Cond.fieldLink RX6 10 "BlockCard" "memory" "LBlockCard$Memory;", Cond.methodLink RX6 123 yX3_has, Cond.instanceMethod yX3_has, Cond.selects RX3 yX3_has yX3_has, Cond.initialized RX3, Cond.code yX3_has cX3_has 2 (some .boolean), Cond.fieldLink RX3 31 "BlockCard$Memory" "size" "I", Cond.methodLink RX6 60 yX6_isOutside, Cond.static yX6_isOutside, Cond.initialized RX6, Cond.code yX6_isOutside cX6_isOutside 3 (some .boolean), Cond.methodLink RX6 150 yX3_contentOf, Cond.instanceMethod yX3_contentOf, Cond.selects RX3 yX3_contentOf yX3_contentOf, Cond.code yX3_contentOf cX3_contentOf 2 (some .int), Cond.fieldLink RX3 9 "BlockCard$Memory" "contents" "[I", Cond.constant RX3 41 (65535), Cond.methodLink RX3 42 yX3_has, Cond.methodLink RX6 147 yX3_isTorn, Cond.instanceMethod yX3_isTorn, Cond.selects RX3 yX3_isTorn yX3_isTorn, Cond.code yX3_isTorn cX3_isTorn 2 (some .boolean), Cond.fieldLink RX3 15 "BlockCard$Memory" "torn" "[Z", Cond.methodLink RX6 162 yX6_asNumber]
def wsX6_block_r2 : List Cond := [Cond.static yX6_asNumber, Cond.code yX6_asNumber cX6_asNumber 1 (some .int), Cond.methodLink RX6 166 yX3_groupOf, Cond.instanceMethod yX3_groupOf, Cond.selects RX3 yX3_groupOf yX3_groupOf, Cond.code yX3_groupOf cX3_groupOf 2 (some .int), Cond.fieldLink RX3 35 "BlockCard$Memory" "groupSize" "I"]
def wsX6_block : List Cond := .code yX6_block cX6_block 3 (some .int) :: ((wsX6_block_r1 ++ wsX6_block_r2) ++ wsX60 ++ wsX30)
def wsX6_latest : List Cond := .code yX6_latest cX6_latest 2 (some .int) :: ([.fieldLink RX6 10 "BlockCard" "memory" "LBlockCard$Memory;", .methodLink RX6 169 yX3_writtenAt, .instanceMethod yX3_writtenAt, .selects RX3 yX3_writtenAt yX3_writtenAt, .initialized RX3, .code yX3_writtenAt cX3_writtenAt 2 (some .int), .fieldLink RX3 38 "BlockCard$Memory" "writtenCount" "I", .fieldLink RX3 19 "BlockCard$Memory" "written" "[I"] ++ wsX60 ++ wsX30)
def wsX6_word : List Cond := .code yX6_word cX6_word 2 (some .int) :: ([.fieldLink RX6 25 "BlockCard" "secret" "LBlockCard$Letters;", .methodLink RX6 86 yX1_length, .instanceMethod yX1_length, .selects RX1 yX1_length yX1_length, .initialized RX1, .code yX1_length cX1_length 1 (some .int), .fieldLink RX1 21 "BlockCard$Letters" "length" "I", .methodLink RX6 172 yX1_at, .instanceMethod yX1_at, .selects RX1 yX1_at yX1_at, .code yX1_at cX1_at 2 (some .int), .fieldLink RX1 15 "BlockCard$Letters" "signs" "[I"] ++ wsX60 ++ wsX10)
def wsX6_later : List Cond := .code yX6_later cX6_later 3 (some .int) :: ([.fieldLink RX6 31 "BlockCard" "queue" "LBlockCard$Queue;", .methodLink RX6 60 yX6_isOutside, .static yX6_isOutside, .initialized RX6, .code yX6_isOutside cX6_isOutside 3 (some .boolean), .methodLink RX6 175 yX4_size, .instanceMethod yX4_size, .selects RX4 yX4_size yX4_size, .initialized RX4, .code yX4_size cX4_size 1 (some .int), .fieldLink RX4 18 "BlockCard$Queue" "size" "I", .methodLink RX6 178 yX4_tellOf, .instanceMethod yX4_tellOf, .selects RX4 yX4_tellOf yX4_tellOf, .code yX4_tellOf cX4_tellOf 3 (some .int), .fieldLink RX4 9 "BlockCard$Queue" "places" "[I", .fieldLink RX4 15 "BlockCard$Queue" "contents" "[I", .fieldLink RX4 22 "BlockCard$Queue" "ticksOfFirst" "I"] ++ wsX60 ++ wsX40)
def wsX6_isStreaming : List Cond := .code yX6_isStreaming cX6_isStreaming 1 (some .boolean) :: ([.fieldLink RX6 111 "BlockCard" "state" "I"] ++ wsX60)
def wsX6_count_r1 : List Cond := [Cond.fieldLink RX6 10 "BlockCard" "memory" "LBlockCard$Memory;", Cond.fieldLink RX6 111 "BlockCard" "state" "I", Cond.fieldLink RX6 185 "BlockCard" "address" "I", Cond.fieldLink RX6 52 "BlockCard" "link" "LBlockCard$Link;", Cond.fieldLink RX6 197 "BlockCard" "locked" "Z", Cond.fieldLink RX6 201 "BlockCard" "notes" "I", Cond.fieldLink RX6 204 "BlockCard" "well" "I", Cond.fieldLink RX6 38 "BlockCard" "eraser" "LBlockCard$Eraser;", Cond.fieldLink RX6 153 "BlockCard" "ticks" "I", Cond.fieldLink RX6 78 "BlockCard" "heat" "I", Cond.fieldLink RX6 21 "BlockCard" "text" "LBlockCard$Letters;", Cond.fieldLink RX6 45 "BlockCard" "stream" "LBlockCard$Stream;", Cond.methodLink RX6 181 yX3_size, Cond.instanceMethod yX3_size, Cond.selects RX3 yX3_size yX3_size, Cond.initialized RX3, Cond.code yX3_size cX3_size 1 (some .int), Cond.fieldLink RX3 31 "BlockCard$Memory" "size" "I", Cond.methodLink RX6 182 yX3_groupSize, Cond.instanceMethod yX3_groupSize, Cond.selects RX3 yX3_groupSize yX3_groupSize, Cond.code yX3_groupSize cX3_groupSize 1 (some .int), Cond.fieldLink RX3 35 "BlockCard$Memory" "groupSize" "I", Cond.methodLink RX6 65 yX6_isPowered]
def wsX6_count_r2 : List Cond := [Cond.instanceMethod yX6_isPowered, Cond.selects RX6 yX6_isPowered yX6_isPowered, Cond.initialized RX6, Cond.code yX6_isPowered cX6_isPowered 1 (some .boolean), Cond.methodLink RX6 188 yX2_lines, Cond.instanceMethod yX2_lines, Cond.selects RX2 yX2_lines yX2_lines, Cond.initialized RX2, Cond.code yX2_lines cX2_lines 1 (some .int), Cond.fieldLink RX2 9 "BlockCard$Link" "lines" "I", Cond.methodLink RX6 191 yX2_speed, Cond.instanceMethod yX2_speed, Cond.selects RX2 yX2_speed yX2_speed, Cond.code yX2_speed cX2_speed 1 (some .int), Cond.fieldLink RX2 15 "BlockCard$Link" "speed" "I", Cond.methodLink RX6 194 yX2_point, Cond.instanceMethod yX2_point, Cond.selects RX2 yX2_point yX2_point, Cond.code yX2_point cX2_point 1 (some .int), Cond.fieldLink RX2 18 "BlockCard$Link" "point" "I", Cond.methodLink RX6 162 yX6_asNumber, Cond.static yX6_asNumber, Cond.code yX6_asNumber cX6_asNumber 1 (some .int), Cond.methodLink RX6 207 yX0_groupsLeft]
def wsX6_count_r3 : List Cond := [Cond.instanceMethod yX0_groupsLeft, Cond.selects RX0 yX0_groupsLeft yX0_groupsLeft, Cond.initialized RX0, Cond.code yX0_groupsLeft cX0_groupsLeft 1 (some .int), Cond.fieldLink RX0 18 "BlockCard$Eraser" "left" "I", Cond.methodLink RX6 210 yX3_tornBlocks, Cond.instanceMethod yX3_tornBlocks, Cond.selects RX3 yX3_tornBlocks yX3_tornBlocks, Cond.code yX3_tornBlocks cX3_tornBlocks 3 (some .int), Cond.methodLink RX3 58 yX3_isTorn, Cond.instanceMethod yX3_isTorn, Cond.selects RX3 yX3_isTorn yX3_isTorn, Cond.code yX3_isTorn cX3_isTorn 2 (some .boolean), Cond.fieldLink RX3 15 "BlockCard$Memory" "torn" "[Z", Cond.methodLink RX3 42 yX3_has, Cond.instanceMethod yX3_has, Cond.selects RX3 yX3_has yX3_has, Cond.code yX3_has cX3_has 2 (some .boolean), Cond.methodLink RX6 86 yX1_length, Cond.instanceMethod yX1_length, Cond.selects RX1 yX1_length yX1_length, Cond.initialized RX1, Cond.code yX1_length cX1_length 1 (some .int), Cond.fieldLink RX1 21 "BlockCard$Letters" "length" "I"]
def wsX6_count_r4 : List Cond := [Cond.methodLink RX6 213 yX6_isStreaming, Cond.instanceMethod yX6_isStreaming, Cond.selects RX6 yX6_isStreaming yX6_isStreaming, Cond.code yX6_isStreaming cX6_isStreaming 1 (some .boolean), Cond.methodLink RX6 120 yX5_next, Cond.instanceMethod yX5_next, Cond.selects RX5 yX5_next yX5_next, Cond.initialized RX5, Cond.code yX5_next cX5_next 1 (some .int), Cond.fieldLink RX5 13 "BlockCard$Stream" "next" "I", Cond.methodLink RX6 123 yX3_has, Cond.methodLink RX6 216 yX5_isCounted, Cond.instanceMethod yX5_isCounted, Cond.selects RX5 yX5_isCounted yX5_isCounted, Cond.code yX5_isCounted cX5_isCounted 1 (some .boolean), Cond.fieldLink RX5 19 "BlockCard$Stream" "counted" "Z", Cond.methodLink RX6 219 yX5_left, Cond.instanceMethod yX5_left, Cond.selects RX5 yX5_left yX5_left, Cond.code yX5_left cX5_left 1 (some .int), Cond.fieldLink RX5 16 "BlockCard$Stream" "left" "I", Cond.methodLink RX6 222 yX3_filledBlocks, Cond.instanceMethod yX3_filledBlocks, Cond.selects RX3 yX3_filledBlocks yX3_filledBlocks]
def wsX6_count_r5 : List Cond := [Cond.code yX3_filledBlocks cX3_filledBlocks 3 (some .int), Cond.constant RX3 41 (65535), Cond.methodLink RX3 65 yX3_contentOf, Cond.instanceMethod yX3_contentOf, Cond.selects RX3 yX3_contentOf yX3_contentOf, Cond.code yX3_contentOf cX3_contentOf 2 (some .int), Cond.fieldLink RX3 9 "BlockCard$Memory" "contents" "[I", Cond.methodLink RX6 132 yX2_isInWindow, Cond.instanceMethod yX2_isInWindow, Cond.selects RX2 yX2_isInWindow yX2_isInWindow, Cond.code yX2_isInWindow cX2_isInWindow 5 (some .boolean), Cond.methodLink RX2 27 Lib.Math.min.name, Cond.static Lib.Math.min.name, Cond.initialized "java/lang/Math", Cond.code Lib.Math.min.name Lib.Math.min.code 2 (some .int), Cond.methodLink RX2 21 yJ9_floorMod_7cf53, Cond.static yJ9_floorMod_7cf53, Cond.initialized RJ9, Cond.code yJ9_floorMod_7cf53 cJ9_floorMod_7cf53 3 (some .int)]
def wsX6_count : List Cond := .code yX6_count cX6_count 2 (some .int) :: ((wsX6_count_r1 ++ (wsX6_count_r2 ++ (wsX6_count_r3 ++ (wsX6_count_r4 ++ wsX6_count_r5)))) ++ wsX60 ++ wsX30 ++ wsX20 ++ wsX00 ++ wsX10 ++ wsX50)
def wsX7_in : List Cond := .code yX7_in cX7_in 6 (some .boolean) :: ([])
def wsX7_begins : List Cond := .code yX7_begins cX7_begins 1 none :: ([.fieldLink RX7 85 "BlockCardModel" "state" "I", .fieldLink RX7 88 "BlockCardModel" "address" "I", .fieldLink RX7 91 "BlockCardModel" "lines" "I", .fieldLink RX7 94 "BlockCardModel" "speed" "I", .fieldLink RX7 97 "BlockCardModel" "point" "I", .fieldLink RX7 71 "BlockCardModel" "wordLong" "I", .fieldLink RX7 100 "BlockCardModel" "isLocked" "Z", .fieldLink RX7 103 "BlockCardModel" "notes" "I", .fieldLink RX7 106 "BlockCardModel" "laterMany" "I", .fieldLink RX7 109 "BlockCardModel" "eraseMany" "I", .fieldLink RX7 112 "BlockCardModel" "eraseTicks" "I", .fieldLink RX7 115 "BlockCardModel" "told" "I", .fieldLink RX7 118 "BlockCardModel" "woken" "I", .fieldLink RX7 121 "BlockCardModel" "begun" "I", .fieldLink RX7 124 "BlockCardModel" "next" "I", .fieldLink RX7 127 "BlockCardModel" "left" "I", .fieldLink RX7 130 "BlockCardModel" "isWrong" "Z"] ++ wsX70)
def wsX7_make_r1 : List Cond := [Cond.constantLong RX7 38 (4), Cond.constantLong RX7 40 (64), Cond.constantLong RX7 46 (8), Cond.constantLong RX7 48 (9), Cond.constantLong RX7 50 (65535), Cond.fieldLink RX7 52 "BlockCardModel" "blocks" "I", Cond.fieldLink RX7 56 "BlockCardModel" "size" "I", Cond.fieldLink RX7 59 "BlockCardModel" "idleness" "I", Cond.fieldLink RX7 62 "BlockCardModel" "number" "I", Cond.fieldLink RX7 65 "BlockCardModel" "ticks" "I", Cond.fieldLink RX7 68 "BlockCardModel" "well" "I", Cond.fieldLink RX7 71 "BlockCardModel" "wordLong" "I", Cond.fieldLink RX7 74 "BlockCardModel" "latestMany" "I", Cond.fieldLink RX7 13 "BlockCardModel" "content" "[I", Cond.constant RX7 77 (65535), Cond.fieldLink RX7 16 "BlockCardModel" "torn" "[I", Cond.fieldLink RX7 78 "BlockCardModel" "isOn" "Z", Cond.methodLink RX7 42 yX7_in, Cond.static yX7_in, Cond.initialized RX7, Cond.code yX7_in cX7_in 6 (some .boolean), Cond.methodLink RX7 82 yX7_begins, Cond.instanceMethod yX7_begins, Cond.selects RX7 yX7_begins yX7_begins]
def wsX7_make_r2 : List Cond := [Cond.code yX7_begins cX7_begins 1 none, Cond.fieldLink RX7 85 "BlockCardModel" "state" "I", Cond.fieldLink RX7 88 "BlockCardModel" "address" "I", Cond.fieldLink RX7 91 "BlockCardModel" "lines" "I", Cond.fieldLink RX7 94 "BlockCardModel" "speed" "I", Cond.fieldLink RX7 97 "BlockCardModel" "point" "I", Cond.fieldLink RX7 100 "BlockCardModel" "isLocked" "Z", Cond.fieldLink RX7 103 "BlockCardModel" "notes" "I", Cond.fieldLink RX7 106 "BlockCardModel" "laterMany" "I", Cond.fieldLink RX7 109 "BlockCardModel" "eraseMany" "I", Cond.fieldLink RX7 112 "BlockCardModel" "eraseTicks" "I", Cond.fieldLink RX7 115 "BlockCardModel" "told" "I", Cond.fieldLink RX7 118 "BlockCardModel" "woken" "I", Cond.fieldLink RX7 121 "BlockCardModel" "begun" "I", Cond.fieldLink RX7 124 "BlockCardModel" "next" "I", Cond.fieldLink RX7 127 "BlockCardModel" "left" "I", Cond.fieldLink RX7 130 "BlockCardModel" "isWrong" "Z"]
def wsX7_make : List Cond := .code yX7_make cX7_make 6 (some .int) :: ((wsX7_make_r1 ++ wsX7_make_r2) ++ wsX70)
def wsX7_init_r1 : List Cond := [Cond.methodLink RX7 1 objectInit, Cond.instanceMethod objectInit, Cond.code objectInit ⟨#[0xb1]⟩ 1 none, Cond.arrayClass .int, Cond.fieldLink RX7 7 "BlockCardModel" "text" "[I", Cond.fieldLink RX7 13 "BlockCardModel" "content" "[I", Cond.fieldLink RX7 16 "BlockCardModel" "torn" "[I", Cond.fieldLink RX7 19 "BlockCardModel" "word" "[I", Cond.fieldLink RX7 22 "BlockCardModel" "latest" "[I", Cond.fieldLink RX7 25 "BlockCardModel" "laterBlock" "[I", Cond.fieldLink RX7 28 "BlockCardModel" "laterContent" "[I", Cond.fieldLink RX7 31 "BlockCardModel" "laterTicks" "[I", Cond.methodLink RX7 34 yX7_make, Cond.instanceMethod yX7_make, Cond.selects RX7 yX7_make yX7_make, Cond.initialized RX7, Cond.code yX7_make cX7_make 6 (some .int), Cond.constantLong RX7 38 (4), Cond.constantLong RX7 40 (64), Cond.constantLong RX7 46 (8), Cond.constantLong RX7 48 (9), Cond.constantLong RX7 50 (65535), Cond.fieldLink RX7 52 "BlockCardModel" "blocks" "I", Cond.fieldLink RX7 56 "BlockCardModel" "size" "I"]
def wsX7_init_r2 : List Cond := [Cond.fieldLink RX7 59 "BlockCardModel" "idleness" "I", Cond.fieldLink RX7 62 "BlockCardModel" "number" "I", Cond.fieldLink RX7 65 "BlockCardModel" "ticks" "I", Cond.fieldLink RX7 68 "BlockCardModel" "well" "I", Cond.fieldLink RX7 71 "BlockCardModel" "wordLong" "I", Cond.fieldLink RX7 74 "BlockCardModel" "latestMany" "I", Cond.constant RX7 77 (65535), Cond.fieldLink RX7 78 "BlockCardModel" "isOn" "Z", Cond.methodLink RX7 42 yX7_in, Cond.static yX7_in, Cond.code yX7_in cX7_in 6 (some .boolean), Cond.methodLink RX7 82 yX7_begins, Cond.instanceMethod yX7_begins, Cond.selects RX7 yX7_begins yX7_begins, Cond.code yX7_begins cX7_begins 1 none, Cond.fieldLink RX7 85 "BlockCardModel" "state" "I", Cond.fieldLink RX7 88 "BlockCardModel" "address" "I", Cond.fieldLink RX7 91 "BlockCardModel" "lines" "I", Cond.fieldLink RX7 94 "BlockCardModel" "speed" "I", Cond.fieldLink RX7 97 "BlockCardModel" "point" "I", Cond.fieldLink RX7 100 "BlockCardModel" "isLocked" "Z", Cond.fieldLink RX7 103 "BlockCardModel" "notes" "I", Cond.fieldLink RX7 106 "BlockCardModel" "laterMany" "I", Cond.fieldLink RX7 109 "BlockCardModel" "eraseMany" "I"]
def wsX7_init_r3 : List Cond := [Cond.fieldLink RX7 112 "BlockCardModel" "eraseTicks" "I", Cond.fieldLink RX7 115 "BlockCardModel" "told" "I", Cond.fieldLink RX7 118 "BlockCardModel" "woken" "I", Cond.fieldLink RX7 121 "BlockCardModel" "begun" "I", Cond.fieldLink RX7 124 "BlockCardModel" "next" "I", Cond.fieldLink RX7 127 "BlockCardModel" "left" "I", Cond.fieldLink RX7 130 "BlockCardModel" "isWrong" "Z"]
def wsX7_init : List Cond := .code yX7_init cX7_init 1 none :: ((wsX7_init_r1 ++ (wsX7_init_r2 ++ wsX7_init_r3)) ++ wsX70)
def wsX7_forgets : List Cond := .code yX7_forgets cX7_forgets 4 none :: ([.fieldLink RX7 74 "BlockCardModel" "latestMany" "I", .fieldLink RX7 22 "BlockCardModel" "latest" "[I"] ++ wsX70)
def wsX7_empties : List Cond := .code yX7_empties cX7_empties 3 none :: ([.fieldLink RX7 13 "BlockCardModel" "content" "[I", .constant RX7 77 (65535), .fieldLink RX7 16 "BlockCardModel" "torn" "[I", .methodLink RX7 133 yX7_forgets, .instanceMethod yX7_forgets, .selects RX7 yX7_forgets yX7_forgets, .initialized RX7, .code yX7_forgets cX7_forgets 4 none, .fieldLink RX7 74 "BlockCardModel" "latestMany" "I", .fieldLink RX7 22 "BlockCardModel" "latest" "[I"] ++ wsX70)
def wsX7_groupEmpties : List Cond := .code yX7_groupEmpties cX7_groupEmpties 4 none :: ([.fieldLink RX7 56 "BlockCardModel" "size" "I", .fieldLink RX7 52 "BlockCardModel" "blocks" "I", .methodLink RX7 137 yX7_empties, .instanceMethod yX7_empties, .selects RX7 yX7_empties yX7_empties, .initialized RX7, .code yX7_empties cX7_empties 3 none, .fieldLink RX7 13 "BlockCardModel" "content" "[I", .constant RX7 77 (65535), .fieldLink RX7 16 "BlockCardModel" "torn" "[I", .methodLink RX7 133 yX7_forgets, .instanceMethod yX7_forgets, .selects RX7 yX7_forgets yX7_forgets, .code yX7_forgets cX7_forgets 4 none, .fieldLink RX7 74 "BlockCardModel" "latestMany" "I", .fieldLink RX7 22 "BlockCardModel" "latest" "[I"] ++ wsX70)
def wsX7_groups : List Cond := .code yX7_groups cX7_groups 1 (some .int) :: ([.fieldLink RX7 52 "BlockCardModel" "blocks" "I", .fieldLink RX7 56 "BlockCardModel" "size" "I"] ++ wsX70)
def wsX7_cuts_r1 : List Cond := [Cond.fieldLink RX7 106 "BlockCardModel" "laterMany" "I", Cond.fieldLink RX7 31 "BlockCardModel" "laterTicks" "[I", Cond.fieldLink RX7 25 "BlockCardModel" "laterBlock" "[I", Cond.fieldLink RX7 109 "BlockCardModel" "eraseMany" "I", Cond.fieldLink RX7 112 "BlockCardModel" "eraseTicks" "I", Cond.fieldLink RX7 141 "BlockCardModel" "eraseFrom" "I", Cond.methodLink RX7 137 yX7_empties, Cond.instanceMethod yX7_empties, Cond.selects RX7 yX7_empties yX7_empties, Cond.initialized RX7, Cond.code yX7_empties cX7_empties 3 none, Cond.fieldLink RX7 13 "BlockCardModel" "content" "[I", Cond.constant RX7 77 (65535), Cond.fieldLink RX7 16 "BlockCardModel" "torn" "[I", Cond.methodLink RX7 133 yX7_forgets, Cond.instanceMethod yX7_forgets, Cond.selects RX7 yX7_forgets yX7_forgets, Cond.code yX7_forgets cX7_forgets 4 none, Cond.fieldLink RX7 74 "BlockCardModel" "latestMany" "I", Cond.fieldLink RX7 22 "BlockCardModel" "latest" "[I", Cond.methodLink RX7 144 yX7_groupEmpties, Cond.instanceMethod yX7_groupEmpties, Cond.selects RX7 yX7_groupEmpties yX7_groupEmpties, Cond.code yX7_groupEmpties cX7_groupEmpties 4 none]
def wsX7_cuts_r2 : List Cond := [Cond.fieldLink RX7 56 "BlockCardModel" "size" "I", Cond.fieldLink RX7 52 "BlockCardModel" "blocks" "I"]
def wsX7_cuts : List Cond := .code yX7_cuts cX7_cuts 1 none :: ((wsX7_cuts_r1 ++ wsX7_cuts_r2) ++ wsX70)
def wsX7_power_r1 : List Cond := [Cond.fieldLink RX7 78 "BlockCardModel" "isOn" "Z", Cond.methodLink RX7 42 yX7_in, Cond.static yX7_in, Cond.initialized RX7, Cond.code yX7_in cX7_in 6 (some .boolean), Cond.methodLink RX7 147 yX7_cuts, Cond.instanceMethod yX7_cuts, Cond.selects RX7 yX7_cuts yX7_cuts, Cond.code yX7_cuts cX7_cuts 1 none, Cond.fieldLink RX7 106 "BlockCardModel" "laterMany" "I", Cond.fieldLink RX7 31 "BlockCardModel" "laterTicks" "[I", Cond.fieldLink RX7 25 "BlockCardModel" "laterBlock" "[I", Cond.fieldLink RX7 109 "BlockCardModel" "eraseMany" "I", Cond.fieldLink RX7 112 "BlockCardModel" "eraseTicks" "I", Cond.fieldLink RX7 141 "BlockCardModel" "eraseFrom" "I", Cond.methodLink RX7 137 yX7_empties, Cond.instanceMethod yX7_empties, Cond.selects RX7 yX7_empties yX7_empties, Cond.code yX7_empties cX7_empties 3 none, Cond.fieldLink RX7 13 "BlockCardModel" "content" "[I", Cond.constant RX7 77 (65535), Cond.fieldLink RX7 16 "BlockCardModel" "torn" "[I", Cond.methodLink RX7 133 yX7_forgets, Cond.instanceMethod yX7_forgets]
def wsX7_power_r2 : List Cond := [Cond.selects RX7 yX7_forgets yX7_forgets, Cond.code yX7_forgets cX7_forgets 4 none, Cond.fieldLink RX7 74 "BlockCardModel" "latestMany" "I", Cond.fieldLink RX7 22 "BlockCardModel" "latest" "[I", Cond.methodLink RX7 144 yX7_groupEmpties, Cond.instanceMethod yX7_groupEmpties, Cond.selects RX7 yX7_groupEmpties yX7_groupEmpties, Cond.code yX7_groupEmpties cX7_groupEmpties 4 none, Cond.fieldLink RX7 56 "BlockCardModel" "size" "I", Cond.fieldLink RX7 52 "BlockCardModel" "blocks" "I", Cond.methodLink RX7 82 yX7_begins, Cond.instanceMethod yX7_begins, Cond.selects RX7 yX7_begins yX7_begins, Cond.code yX7_begins cX7_begins 1 none, Cond.fieldLink RX7 85 "BlockCardModel" "state" "I", Cond.fieldLink RX7 88 "BlockCardModel" "address" "I", Cond.fieldLink RX7 91 "BlockCardModel" "lines" "I", Cond.fieldLink RX7 94 "BlockCardModel" "speed" "I", Cond.fieldLink RX7 97 "BlockCardModel" "point" "I", Cond.fieldLink RX7 71 "BlockCardModel" "wordLong" "I", Cond.fieldLink RX7 100 "BlockCardModel" "isLocked" "Z", Cond.fieldLink RX7 103 "BlockCardModel" "notes" "I", Cond.fieldLink RX7 115 "BlockCardModel" "told" "I", Cond.fieldLink RX7 118 "BlockCardModel" "woken" "I"]
def wsX7_power_r3 : List Cond := [Cond.fieldLink RX7 121 "BlockCardModel" "begun" "I", Cond.fieldLink RX7 124 "BlockCardModel" "next" "I", Cond.fieldLink RX7 127 "BlockCardModel" "left" "I", Cond.fieldLink RX7 130 "BlockCardModel" "isWrong" "Z"]
def wsX7_power : List Cond := .code yX7_power cX7_power 2 (some .int) :: ((wsX7_power_r1 ++ (wsX7_power_r2 ++ wsX7_power_r3)) ++ wsX70)
def wsX7_warm : List Cond := .code yX7_warm cX7_warm 3 (some .int) :: ([.constantLong RX7 150 (15), .fieldLink RX7 152 "BlockCardModel" "heat" "I", .methodLink RX7 42 yX7_in, .static yX7_in, .initialized RX7, .code yX7_in cX7_in 6 (some .boolean)] ++ wsX70)
def wsX7_write : List Cond := .code yX7_write cX7_write 2 (some .int) :: ([.constantLong RX7 155 (32), .constantLong RX7 157 (126), .fieldLink RX7 159 "BlockCardModel" "length" "I", .fieldLink RX7 7 "BlockCardModel" "text" "[I", .methodLink RX7 42 yX7_in, .static yX7_in, .initialized RX7, .code yX7_in cX7_in 6 (some .boolean)] ++ wsX70)
def wsX7_wipe : List Cond := .code yX7_wipe cX7_wipe 2 (some .int) :: ([.fieldLink RX7 159 "BlockCardModel" "length" "I"] ++ wsX70)
def wsX7_checked : List Cond := .code yX7_checked cX7_checked 4 (some .int) :: ([])
def wsX7_check : List Cond := .code yX7_check cX7_check 3 (some .int) :: ([.constantLong RX7 162 (63), .constantLong RX7 50 (65535), .constant RX7 164 (65536), .methodLink RX7 42 yX7_in, .static yX7_in, .initialized RX7, .code yX7_in cX7_in 6 (some .boolean), .methodLink RX7 165 yX7_checked, .static yX7_checked, .code yX7_checked cX7_checked 4 (some .int)])
def wsX7_checkOf : List Cond := .code yX7_checkOf cX7_checkOf 2 (some .int) :: ([.constantLong RX7 50 (65535), .methodLink RX7 42 yX7_in, .static yX7_in, .initialized RX7, .code yX7_in cX7_in 6 (some .boolean), .methodLink RX7 165 yX7_checked, .static yX7_checked, .code yX7_checked cX7_checked 4 (some .int)])
def wsX7_isInWindow : List Cond := .code yX7_isInWindow cX7_isInWindow 3 (some .boolean) :: ([.fieldLink RX7 97 "BlockCardModel" "point" "I", .fieldLink RX7 94 "BlockCardModel" "speed" "I", .fieldLink RX7 152 "BlockCardModel" "heat" "I"] ++ wsX70)
def wsX7_isStarred : List Cond := .code yX7_isStarred cX7_isStarred 1 (some .boolean) :: ([.constantLong RX7 173 (21), .constantLong RX7 175 (25), .methodLink RX7 42 yX7_in, .static yX7_in, .initialized RX7, .code yX7_in cX7_in 6 (some .boolean)])
def wsX7_isOne : List Cond := .code yX7_isOne cX7_isOne 2 (some .boolean) :: ([.fieldLink RX7 85 "BlockCardModel" "state" "I", .methodLink RX7 169 yX7_isStarred, .static yX7_isStarred, .initialized RX7, .code yX7_isStarred cX7_isStarred 1 (some .boolean), .constantLong RX7 173 (21), .constantLong RX7 175 (25), .methodLink RX7 42 yX7_in, .static yX7_in, .code yX7_in cX7_in 6 (some .boolean)] ++ wsX70)
def wsX7_noting : List Cond := .code yX7_noting cX7_noting 2 (some .int) :: ([.fieldLink RX7 103 "BlockCardModel" "notes" "I"] ++ wsX70)
def wsX7_switches : List Cond := .code yX7_switches cX7_switches 3 none :: ([.fieldLink RX7 103 "BlockCardModel" "notes" "I", .fieldLink RX7 94 "BlockCardModel" "speed" "I", .fieldLink RX7 91 "BlockCardModel" "lines" "I"] ++ wsX70)
def wsX7_chooses : List Cond := .code yX7_chooses cX7_chooses 2 (some .int) :: ([.fieldLink RX7 85 "BlockCardModel" "state" "I", .fieldLink RX7 88 "BlockCardModel" "address" "I"] ++ wsX70)
def wsX7_stops : List Cond := .code yX7_stops cX7_stops 2 (some .int) :: ([.fieldLink RX7 85 "BlockCardModel" "state" "I", .fieldLink RX7 106 "BlockCardModel" "laterMany" "I"] ++ wsX70)
def wsX7_status : List Cond := .code yX7_status cX7_status 2 (some .int) :: ([.fieldLink RX7 85 "BlockCardModel" "state" "I", .fieldLink RX7 100 "BlockCardModel" "isLocked" "Z", .fieldLink RX7 103 "BlockCardModel" "notes" "I"] ++ wsX70)
def wsX7_first_r1 : List Cond := [Cond.fieldLink RX7 118 "BlockCardModel" "woken" "I", Cond.fieldLink RX7 59 "BlockCardModel" "idleness" "I", Cond.fieldLink RX7 85 "BlockCardModel" "state" "I", Cond.fieldLink RX7 62 "BlockCardModel" "number" "I", Cond.fieldLink RX7 88 "BlockCardModel" "address" "I", Cond.fieldLink RX7 94 "BlockCardModel" "speed" "I", Cond.fieldLink RX7 91 "BlockCardModel" "lines" "I", Cond.methodLink RX7 147 yX7_cuts, Cond.instanceMethod yX7_cuts, Cond.selects RX7 yX7_cuts yX7_cuts, Cond.initialized RX7, Cond.code yX7_cuts cX7_cuts 1 none, Cond.fieldLink RX7 106 "BlockCardModel" "laterMany" "I", Cond.fieldLink RX7 31 "BlockCardModel" "laterTicks" "[I", Cond.fieldLink RX7 25 "BlockCardModel" "laterBlock" "[I", Cond.fieldLink RX7 109 "BlockCardModel" "eraseMany" "I", Cond.fieldLink RX7 112 "BlockCardModel" "eraseTicks" "I", Cond.fieldLink RX7 141 "BlockCardModel" "eraseFrom" "I", Cond.methodLink RX7 137 yX7_empties, Cond.instanceMethod yX7_empties, Cond.selects RX7 yX7_empties yX7_empties, Cond.code yX7_empties cX7_empties 3 none, Cond.fieldLink RX7 13 "BlockCardModel" "content" "[I", Cond.constant RX7 77 (65535)]
def wsX7_first_r2 : List Cond := [Cond.fieldLink RX7 16 "BlockCardModel" "torn" "[I", Cond.methodLink RX7 133 yX7_forgets, Cond.instanceMethod yX7_forgets, Cond.selects RX7 yX7_forgets yX7_forgets, Cond.code yX7_forgets cX7_forgets 4 none, Cond.fieldLink RX7 74 "BlockCardModel" "latestMany" "I", Cond.fieldLink RX7 22 "BlockCardModel" "latest" "[I", Cond.methodLink RX7 144 yX7_groupEmpties, Cond.instanceMethod yX7_groupEmpties, Cond.selects RX7 yX7_groupEmpties yX7_groupEmpties, Cond.code yX7_groupEmpties cX7_groupEmpties 4 none, Cond.fieldLink RX7 56 "BlockCardModel" "size" "I", Cond.fieldLink RX7 52 "BlockCardModel" "blocks" "I", Cond.methodLink RX7 82 yX7_begins, Cond.instanceMethod yX7_begins, Cond.selects RX7 yX7_begins yX7_begins, Cond.code yX7_begins cX7_begins 1 none, Cond.fieldLink RX7 97 "BlockCardModel" "point" "I", Cond.fieldLink RX7 71 "BlockCardModel" "wordLong" "I", Cond.fieldLink RX7 100 "BlockCardModel" "isLocked" "Z", Cond.fieldLink RX7 103 "BlockCardModel" "notes" "I", Cond.fieldLink RX7 115 "BlockCardModel" "told" "I", Cond.fieldLink RX7 121 "BlockCardModel" "begun" "I", Cond.fieldLink RX7 124 "BlockCardModel" "next" "I"]
def wsX7_first_r3 : List Cond := [Cond.fieldLink RX7 127 "BlockCardModel" "left" "I", Cond.fieldLink RX7 130 "BlockCardModel" "isWrong" "Z", Cond.methodLink RX7 198 yX7_switches, Cond.instanceMethod yX7_switches, Cond.selects RX7 yX7_switches yX7_switches, Cond.code yX7_switches cX7_switches 3 none, Cond.methodLink RX7 201 yX7_chooses, Cond.instanceMethod yX7_chooses, Cond.selects RX7 yX7_chooses yX7_chooses, Cond.code yX7_chooses cX7_chooses 2 (some .int), Cond.methodLink RX7 205 yX7_stops, Cond.instanceMethod yX7_stops, Cond.selects RX7 yX7_stops yX7_stops, Cond.code yX7_stops cX7_stops 2 (some .int), Cond.methodLink RX7 209 yX7_status, Cond.instanceMethod yX7_status, Cond.selects RX7 yX7_status yX7_status, Cond.code yX7_status cX7_status 2 (some .int)]
def wsX7_first : List Cond := .code yX7_first cX7_first 3 (some .int) :: ((wsX7_first_r1 ++ (wsX7_first_r2 ++ wsX7_first_r3)) ++ wsX70)
def wsX7_streamsFrom : List Cond := .code yX7_streamsFrom cX7_streamsFrom 4 (some .int) :: ([.fieldLink RX7 52 "BlockCardModel" "blocks" "I", .fieldLink RX7 85 "BlockCardModel" "state" "I", .fieldLink RX7 124 "BlockCardModel" "next" "I", .fieldLink RX7 115 "BlockCardModel" "told" "I", .fieldLink RX7 127 "BlockCardModel" "left" "I", .fieldLink RX7 130 "BlockCardModel" "isWrong" "Z", .fieldLink RX7 68 "BlockCardModel" "well" "I", .methodLink RX7 219 yX7_noting, .instanceMethod yX7_noting, .selects RX7 yX7_noting yX7_noting, .initialized RX7, .code yX7_noting cX7_noting 2 (some .int), .fieldLink RX7 103 "BlockCardModel" "notes" "I"] ++ wsX70)
def wsX7_streams : List Cond := .code yX7_streams cX7_streams 3 (some .int) :: ([.fieldLink RX7 97 "BlockCardModel" "point" "I", .fieldLink RX7 68 "BlockCardModel" "well" "I", .fieldLink RX7 115 "BlockCardModel" "told" "I", .methodLink RX7 212 yX7_isInWindow, .instanceMethod yX7_isInWindow, .selects RX7 yX7_isInWindow yX7_isInWindow, .initialized RX7, .code yX7_isInWindow cX7_isInWindow 3 (some .boolean), .fieldLink RX7 94 "BlockCardModel" "speed" "I", .fieldLink RX7 152 "BlockCardModel" "heat" "I", .methodLink RX7 216 yX7_streamsFrom, .instanceMethod yX7_streamsFrom, .selects RX7 yX7_streamsFrom yX7_streamsFrom, .code yX7_streamsFrom cX7_streamsFrom 4 (some .int), .fieldLink RX7 52 "BlockCardModel" "blocks" "I", .fieldLink RX7 85 "BlockCardModel" "state" "I", .fieldLink RX7 124 "BlockCardModel" "next" "I", .fieldLink RX7 127 "BlockCardModel" "left" "I", .fieldLink RX7 130 "BlockCardModel" "isWrong" "Z", .methodLink RX7 219 yX7_noting, .instanceMethod yX7_noting, .selects RX7 yX7_noting yX7_noting, .code yX7_noting cX7_noting 2 (some .int), .fieldLink RX7 103 "BlockCardModel" "notes" "I"] ++ wsX70)
def wsX7_endsAt : List Cond := .code yX7_endsAt cX7_endsAt 3 (some .int) :: ([.fieldLink RX7 121 "BlockCardModel" "begun" "I", .fieldLink RX7 52 "BlockCardModel" "blocks" "I", .fieldLink RX7 222 "BlockCardModel" "from" "I", .fieldLink RX7 228 "BlockCardModel" "to" "I", .methodLink RX7 219 yX7_noting, .instanceMethod yX7_noting, .selects RX7 yX7_noting yX7_noting, .initialized RX7, .code yX7_noting cX7_noting 2 (some .int), .fieldLink RX7 103 "BlockCardModel" "notes" "I"] ++ wsX70)
def wsX7_erasesGroups : List Cond := .code yX7_erasesGroups cX7_erasesGroups 3 (some .int) :: ([.fieldLink RX7 141 "BlockCardModel" "eraseFrom" "I", .fieldLink RX7 109 "BlockCardModel" "eraseMany" "I", .fieldLink RX7 112 "BlockCardModel" "eraseTicks" "I", .fieldLink RX7 85 "BlockCardModel" "state" "I"] ++ wsX70)
def wsX7_isWord : List Cond := .code yX7_isWord cX7_isWord 5 (some .boolean) :: ([.fieldLink RX7 159 "BlockCardModel" "length" "I", .fieldLink RX7 71 "BlockCardModel" "wordLong" "I", .fieldLink RX7 7 "BlockCardModel" "text" "[I", .fieldLink RX7 19 "BlockCardModel" "word" "[I", .methodLink RX7 42 yX7_in, .static yX7_in, .initialized RX7, .code yX7_in cX7_in 6 (some .boolean)] ++ wsX70)
def wsX7_sets : List Cond := .code yX7_sets cX7_sets 3 (some .boolean) :: ([.fieldLink RX7 100 "BlockCardModel" "isLocked" "Z", .fieldLink RX7 71 "BlockCardModel" "wordLong" "I", .fieldLink RX7 159 "BlockCardModel" "length" "I", .fieldLink RX7 19 "BlockCardModel" "word" "[I", .fieldLink RX7 7 "BlockCardModel" "text" "[I", .methodLink RX7 237 yX7_isWord, .instanceMethod yX7_isWord, .selects RX7 yX7_isWord yX7_isWord, .initialized RX7, .code yX7_isWord cX7_isWord 5 (some .boolean), .methodLink RX7 42 yX7_in, .static yX7_in, .code yX7_in cX7_in 6 (some .boolean)] ++ wsX70)
def wsX7_locks_r1 : List Cond := [Cond.fieldLink RX7 100 "BlockCardModel" "isLocked" "Z", Cond.fieldLink RX7 71 "BlockCardModel" "wordLong" "I", Cond.methodLink RX7 237 yX7_isWord, Cond.instanceMethod yX7_isWord, Cond.selects RX7 yX7_isWord yX7_isWord, Cond.initialized RX7, Cond.code yX7_isWord cX7_isWord 5 (some .boolean), Cond.fieldLink RX7 159 "BlockCardModel" "length" "I", Cond.fieldLink RX7 7 "BlockCardModel" "text" "[I", Cond.fieldLink RX7 19 "BlockCardModel" "word" "[I", Cond.methodLink RX7 42 yX7_in, Cond.static yX7_in, Cond.code yX7_in cX7_in 6 (some .boolean), Cond.methodLink RX7 241 yX7_sets, Cond.instanceMethod yX7_sets, Cond.selects RX7 yX7_sets yX7_sets, Cond.code yX7_sets cX7_sets 3 (some .boolean), Cond.methodLink RX7 244 yX7_groups, Cond.instanceMethod yX7_groups, Cond.selects RX7 yX7_groups yX7_groups, Cond.code yX7_groups cX7_groups 1 (some .int), Cond.fieldLink RX7 52 "BlockCardModel" "blocks" "I", Cond.fieldLink RX7 56 "BlockCardModel" "size" "I", Cond.methodLink RX7 231 yX7_erasesGroups]
def wsX7_locks_r2 : List Cond := [Cond.instanceMethod yX7_erasesGroups, Cond.selects RX7 yX7_erasesGroups yX7_erasesGroups, Cond.code yX7_erasesGroups cX7_erasesGroups 3 (some .int), Cond.fieldLink RX7 141 "BlockCardModel" "eraseFrom" "I", Cond.fieldLink RX7 109 "BlockCardModel" "eraseMany" "I", Cond.fieldLink RX7 112 "BlockCardModel" "eraseTicks" "I", Cond.fieldLink RX7 85 "BlockCardModel" "state" "I", Cond.methodLink RX7 219 yX7_noting, Cond.instanceMethod yX7_noting, Cond.selects RX7 yX7_noting yX7_noting, Cond.code yX7_noting cX7_noting 2 (some .int), Cond.fieldLink RX7 103 "BlockCardModel" "notes" "I"]
def wsX7_locks : List Cond := .code yX7_locks cX7_locks 3 (some .int) :: ((wsX7_locks_r1 ++ wsX7_locks_r2) ++ wsX70)
def wsX7_erases_r1 : List Cond := [Cond.fieldLink RX7 52 "BlockCardModel" "blocks" "I", Cond.fieldLink RX7 222 "BlockCardModel" "from" "I", Cond.fieldLink RX7 121 "BlockCardModel" "begun" "I", Cond.fieldLink RX7 56 "BlockCardModel" "size" "I", Cond.fieldLink RX7 228 "BlockCardModel" "to" "I", Cond.methodLink RX7 219 yX7_noting, Cond.instanceMethod yX7_noting, Cond.selects RX7 yX7_noting yX7_noting, Cond.initialized RX7, Cond.code yX7_noting cX7_noting 2 (some .int), Cond.fieldLink RX7 103 "BlockCardModel" "notes" "I", Cond.methodLink RX7 225 yX7_endsAt, Cond.instanceMethod yX7_endsAt, Cond.selects RX7 yX7_endsAt yX7_endsAt, Cond.code yX7_endsAt cX7_endsAt 3 (some .int), Cond.methodLink RX7 231 yX7_erasesGroups, Cond.instanceMethod yX7_erasesGroups, Cond.selects RX7 yX7_erasesGroups yX7_erasesGroups, Cond.code yX7_erasesGroups cX7_erasesGroups 3 (some .int), Cond.fieldLink RX7 141 "BlockCardModel" "eraseFrom" "I", Cond.fieldLink RX7 109 "BlockCardModel" "eraseMany" "I", Cond.fieldLink RX7 112 "BlockCardModel" "eraseTicks" "I", Cond.fieldLink RX7 85 "BlockCardModel" "state" "I", Cond.methodLink RX7 234 yX7_locks]
def wsX7_erases_r2 : List Cond := [Cond.instanceMethod yX7_locks, Cond.selects RX7 yX7_locks yX7_locks, Cond.code yX7_locks cX7_locks 3 (some .int), Cond.fieldLink RX7 100 "BlockCardModel" "isLocked" "Z", Cond.fieldLink RX7 71 "BlockCardModel" "wordLong" "I", Cond.methodLink RX7 237 yX7_isWord, Cond.instanceMethod yX7_isWord, Cond.selects RX7 yX7_isWord yX7_isWord, Cond.code yX7_isWord cX7_isWord 5 (some .boolean), Cond.fieldLink RX7 159 "BlockCardModel" "length" "I", Cond.fieldLink RX7 7 "BlockCardModel" "text" "[I", Cond.fieldLink RX7 19 "BlockCardModel" "word" "[I", Cond.methodLink RX7 42 yX7_in, Cond.static yX7_in, Cond.code yX7_in cX7_in 6 (some .boolean), Cond.methodLink RX7 241 yX7_sets, Cond.instanceMethod yX7_sets, Cond.selects RX7 yX7_sets yX7_sets, Cond.code yX7_sets cX7_sets 3 (some .boolean), Cond.methodLink RX7 244 yX7_groups, Cond.instanceMethod yX7_groups, Cond.selects RX7 yX7_groups yX7_groups, Cond.code yX7_groups cX7_groups 1 (some .int)]
def wsX7_erases : List Cond := .code yX7_erases cX7_erases 3 (some .int) :: ((wsX7_erases_r1 ++ wsX7_erases_r2) ++ wsX70)
def wsX7_send_r1 : List Cond := [Cond.constantLong RX7 162 (63), Cond.constantLong RX7 50 (65535), Cond.constantLong RX7 177 (127), Cond.fieldLink RX7 78 "BlockCardModel" "isOn" "Z", Cond.fieldLink RX7 103 "BlockCardModel" "notes" "I", Cond.fieldLink RX7 100 "BlockCardModel" "isLocked" "Z", Cond.fieldLink RX7 121 "BlockCardModel" "begun" "I", Cond.methodLink RX7 42 yX7_in, Cond.static yX7_in, Cond.initialized RX7, Cond.code yX7_in cX7_in 6 (some .boolean), Cond.methodLink RX7 179 yX7_check, Cond.instanceMethod yX7_check, Cond.selects RX7 yX7_check yX7_check, Cond.code yX7_check cX7_check 3 (some .int), Cond.constant RX7 164 (65536), Cond.methodLink RX7 165 yX7_checked, Cond.static yX7_checked, Cond.code yX7_checked cX7_checked 4 (some .int), Cond.methodLink RX7 182 yX7_isOne, Cond.instanceMethod yX7_isOne, Cond.selects RX7 yX7_isOne yX7_isOne, Cond.code yX7_isOne cX7_isOne 2 (some .boolean), Cond.fieldLink RX7 85 "BlockCardModel" "state" "I"]
def wsX7_send_r2 : List Cond := [Cond.methodLink RX7 169 yX7_isStarred, Cond.static yX7_isStarred, Cond.code yX7_isStarred cX7_isStarred 1 (some .boolean), Cond.constantLong RX7 173 (21), Cond.constantLong RX7 175 (25), Cond.methodLink RX7 185 yX7_first, Cond.instanceMethod yX7_first, Cond.selects RX7 yX7_first yX7_first, Cond.code yX7_first cX7_first 3 (some .int), Cond.fieldLink RX7 118 "BlockCardModel" "woken" "I", Cond.fieldLink RX7 59 "BlockCardModel" "idleness" "I", Cond.fieldLink RX7 62 "BlockCardModel" "number" "I", Cond.fieldLink RX7 88 "BlockCardModel" "address" "I", Cond.fieldLink RX7 94 "BlockCardModel" "speed" "I", Cond.fieldLink RX7 91 "BlockCardModel" "lines" "I", Cond.methodLink RX7 147 yX7_cuts, Cond.instanceMethod yX7_cuts, Cond.selects RX7 yX7_cuts yX7_cuts, Cond.code yX7_cuts cX7_cuts 1 none, Cond.fieldLink RX7 106 "BlockCardModel" "laterMany" "I", Cond.fieldLink RX7 31 "BlockCardModel" "laterTicks" "[I", Cond.fieldLink RX7 25 "BlockCardModel" "laterBlock" "[I", Cond.fieldLink RX7 109 "BlockCardModel" "eraseMany" "I", Cond.fieldLink RX7 112 "BlockCardModel" "eraseTicks" "I"]
def wsX7_send_r3 : List Cond := [Cond.fieldLink RX7 141 "BlockCardModel" "eraseFrom" "I", Cond.methodLink RX7 137 yX7_empties, Cond.instanceMethod yX7_empties, Cond.selects RX7 yX7_empties yX7_empties, Cond.code yX7_empties cX7_empties 3 none, Cond.fieldLink RX7 13 "BlockCardModel" "content" "[I", Cond.constant RX7 77 (65535), Cond.fieldLink RX7 16 "BlockCardModel" "torn" "[I", Cond.methodLink RX7 133 yX7_forgets, Cond.instanceMethod yX7_forgets, Cond.selects RX7 yX7_forgets yX7_forgets, Cond.code yX7_forgets cX7_forgets 4 none, Cond.fieldLink RX7 74 "BlockCardModel" "latestMany" "I", Cond.fieldLink RX7 22 "BlockCardModel" "latest" "[I", Cond.methodLink RX7 144 yX7_groupEmpties, Cond.instanceMethod yX7_groupEmpties, Cond.selects RX7 yX7_groupEmpties yX7_groupEmpties, Cond.code yX7_groupEmpties cX7_groupEmpties 4 none, Cond.fieldLink RX7 56 "BlockCardModel" "size" "I", Cond.fieldLink RX7 52 "BlockCardModel" "blocks" "I", Cond.methodLink RX7 82 yX7_begins, Cond.instanceMethod yX7_begins, Cond.selects RX7 yX7_begins yX7_begins, Cond.code yX7_begins cX7_begins 1 none]
def wsX7_send_r4 : List Cond := [Cond.fieldLink RX7 97 "BlockCardModel" "point" "I", Cond.fieldLink RX7 71 "BlockCardModel" "wordLong" "I", Cond.fieldLink RX7 115 "BlockCardModel" "told" "I", Cond.fieldLink RX7 124 "BlockCardModel" "next" "I", Cond.fieldLink RX7 127 "BlockCardModel" "left" "I", Cond.fieldLink RX7 130 "BlockCardModel" "isWrong" "Z", Cond.methodLink RX7 198 yX7_switches, Cond.instanceMethod yX7_switches, Cond.selects RX7 yX7_switches yX7_switches, Cond.code yX7_switches cX7_switches 3 none, Cond.methodLink RX7 201 yX7_chooses, Cond.instanceMethod yX7_chooses, Cond.selects RX7 yX7_chooses yX7_chooses, Cond.code yX7_chooses cX7_chooses 2 (some .int), Cond.methodLink RX7 205 yX7_stops, Cond.instanceMethod yX7_stops, Cond.selects RX7 yX7_stops yX7_stops, Cond.code yX7_stops cX7_stops 2 (some .int), Cond.methodLink RX7 209 yX7_status, Cond.instanceMethod yX7_status, Cond.selects RX7 yX7_status yX7_status, Cond.code yX7_status cX7_status 2 (some .int), Cond.methodLink RX7 188 yX7_streams, Cond.instanceMethod yX7_streams]
def wsX7_send_r5 : List Cond := [Cond.selects RX7 yX7_streams yX7_streams, Cond.code yX7_streams cX7_streams 3 (some .int), Cond.fieldLink RX7 68 "BlockCardModel" "well" "I", Cond.methodLink RX7 212 yX7_isInWindow, Cond.instanceMethod yX7_isInWindow, Cond.selects RX7 yX7_isInWindow yX7_isInWindow, Cond.code yX7_isInWindow cX7_isInWindow 3 (some .boolean), Cond.fieldLink RX7 152 "BlockCardModel" "heat" "I", Cond.methodLink RX7 216 yX7_streamsFrom, Cond.instanceMethod yX7_streamsFrom, Cond.selects RX7 yX7_streamsFrom yX7_streamsFrom, Cond.code yX7_streamsFrom cX7_streamsFrom 4 (some .int), Cond.methodLink RX7 219 yX7_noting, Cond.instanceMethod yX7_noting, Cond.selects RX7 yX7_noting yX7_noting, Cond.code yX7_noting cX7_noting 2 (some .int), Cond.methodLink RX7 191 yX7_erases, Cond.instanceMethod yX7_erases, Cond.selects RX7 yX7_erases yX7_erases, Cond.code yX7_erases cX7_erases 3 (some .int), Cond.fieldLink RX7 222 "BlockCardModel" "from" "I", Cond.fieldLink RX7 228 "BlockCardModel" "to" "I", Cond.methodLink RX7 225 yX7_endsAt, Cond.instanceMethod yX7_endsAt]
def wsX7_send_r6 : List Cond := [Cond.selects RX7 yX7_endsAt yX7_endsAt, Cond.code yX7_endsAt cX7_endsAt 3 (some .int), Cond.methodLink RX7 231 yX7_erasesGroups, Cond.instanceMethod yX7_erasesGroups, Cond.selects RX7 yX7_erasesGroups yX7_erasesGroups, Cond.code yX7_erasesGroups cX7_erasesGroups 3 (some .int), Cond.methodLink RX7 234 yX7_locks, Cond.instanceMethod yX7_locks, Cond.selects RX7 yX7_locks yX7_locks, Cond.code yX7_locks cX7_locks 3 (some .int), Cond.methodLink RX7 237 yX7_isWord, Cond.instanceMethod yX7_isWord, Cond.selects RX7 yX7_isWord yX7_isWord, Cond.code yX7_isWord cX7_isWord 5 (some .boolean), Cond.fieldLink RX7 159 "BlockCardModel" "length" "I", Cond.fieldLink RX7 7 "BlockCardModel" "text" "[I", Cond.fieldLink RX7 19 "BlockCardModel" "word" "[I", Cond.methodLink RX7 241 yX7_sets, Cond.instanceMethod yX7_sets, Cond.selects RX7 yX7_sets yX7_sets, Cond.code yX7_sets cX7_sets 3 (some .boolean), Cond.methodLink RX7 244 yX7_groups, Cond.instanceMethod yX7_groups, Cond.selects RX7 yX7_groups yX7_groups]
def wsX7_send_r7 : List Cond := [Cond.code yX7_groups cX7_groups 1 (some .int)]
def wsX7_send : List Cond := .code yX7_send cX7_send 4 (some .int) :: ((wsX7_send_r1 ++ (wsX7_send_r2 ++ (wsX7_send_r3 ++ (wsX7_send_r4 ++ (wsX7_send_r5 ++ (wsX7_send_r6 ++ wsX7_send_r7)))))) ++ wsX70)
def wsX7_tell_r1 : List Cond := [Cond.constantLong RX7 162 (63), Cond.constantLong RX7 50 (65535), Cond.methodLink RX7 42 yX7_in, Cond.static yX7_in, Cond.initialized RX7, Cond.code yX7_in cX7_in 6 (some .boolean), Cond.methodLink RX7 179 yX7_check, Cond.instanceMethod yX7_check, Cond.selects RX7 yX7_check yX7_check, Cond.code yX7_check cX7_check 3 (some .int), Cond.constant RX7 164 (65536), Cond.methodLink RX7 165 yX7_checked, Cond.static yX7_checked, Cond.code yX7_checked cX7_checked 4 (some .int), Cond.methodLink RX7 194 yX7_send, Cond.instanceMethod yX7_send, Cond.selects RX7 yX7_send yX7_send, Cond.code yX7_send cX7_send 4 (some .int), Cond.constantLong RX7 177 (127), Cond.fieldLink RX7 78 "BlockCardModel" "isOn" "Z", Cond.fieldLink RX7 103 "BlockCardModel" "notes" "I", Cond.fieldLink RX7 100 "BlockCardModel" "isLocked" "Z", Cond.fieldLink RX7 121 "BlockCardModel" "begun" "I", Cond.methodLink RX7 182 yX7_isOne]
def wsX7_tell_r2 : List Cond := [Cond.instanceMethod yX7_isOne, Cond.selects RX7 yX7_isOne yX7_isOne, Cond.code yX7_isOne cX7_isOne 2 (some .boolean), Cond.fieldLink RX7 85 "BlockCardModel" "state" "I", Cond.methodLink RX7 169 yX7_isStarred, Cond.static yX7_isStarred, Cond.code yX7_isStarred cX7_isStarred 1 (some .boolean), Cond.constantLong RX7 173 (21), Cond.constantLong RX7 175 (25), Cond.methodLink RX7 185 yX7_first, Cond.instanceMethod yX7_first, Cond.selects RX7 yX7_first yX7_first, Cond.code yX7_first cX7_first 3 (some .int), Cond.fieldLink RX7 118 "BlockCardModel" "woken" "I", Cond.fieldLink RX7 59 "BlockCardModel" "idleness" "I", Cond.fieldLink RX7 62 "BlockCardModel" "number" "I", Cond.fieldLink RX7 88 "BlockCardModel" "address" "I", Cond.fieldLink RX7 94 "BlockCardModel" "speed" "I", Cond.fieldLink RX7 91 "BlockCardModel" "lines" "I", Cond.methodLink RX7 147 yX7_cuts, Cond.instanceMethod yX7_cuts, Cond.selects RX7 yX7_cuts yX7_cuts, Cond.code yX7_cuts cX7_cuts 1 none, Cond.fieldLink RX7 106 "BlockCardModel" "laterMany" "I"]
def wsX7_tell_r3 : List Cond := [Cond.fieldLink RX7 31 "BlockCardModel" "laterTicks" "[I", Cond.fieldLink RX7 25 "BlockCardModel" "laterBlock" "[I", Cond.fieldLink RX7 109 "BlockCardModel" "eraseMany" "I", Cond.fieldLink RX7 112 "BlockCardModel" "eraseTicks" "I", Cond.fieldLink RX7 141 "BlockCardModel" "eraseFrom" "I", Cond.methodLink RX7 137 yX7_empties, Cond.instanceMethod yX7_empties, Cond.selects RX7 yX7_empties yX7_empties, Cond.code yX7_empties cX7_empties 3 none, Cond.fieldLink RX7 13 "BlockCardModel" "content" "[I", Cond.constant RX7 77 (65535), Cond.fieldLink RX7 16 "BlockCardModel" "torn" "[I", Cond.methodLink RX7 133 yX7_forgets, Cond.instanceMethod yX7_forgets, Cond.selects RX7 yX7_forgets yX7_forgets, Cond.code yX7_forgets cX7_forgets 4 none, Cond.fieldLink RX7 74 "BlockCardModel" "latestMany" "I", Cond.fieldLink RX7 22 "BlockCardModel" "latest" "[I", Cond.methodLink RX7 144 yX7_groupEmpties, Cond.instanceMethod yX7_groupEmpties, Cond.selects RX7 yX7_groupEmpties yX7_groupEmpties, Cond.code yX7_groupEmpties cX7_groupEmpties 4 none, Cond.fieldLink RX7 56 "BlockCardModel" "size" "I", Cond.fieldLink RX7 52 "BlockCardModel" "blocks" "I"]
def wsX7_tell_r4 : List Cond := [Cond.methodLink RX7 82 yX7_begins, Cond.instanceMethod yX7_begins, Cond.selects RX7 yX7_begins yX7_begins, Cond.code yX7_begins cX7_begins 1 none, Cond.fieldLink RX7 97 "BlockCardModel" "point" "I", Cond.fieldLink RX7 71 "BlockCardModel" "wordLong" "I", Cond.fieldLink RX7 115 "BlockCardModel" "told" "I", Cond.fieldLink RX7 124 "BlockCardModel" "next" "I", Cond.fieldLink RX7 127 "BlockCardModel" "left" "I", Cond.fieldLink RX7 130 "BlockCardModel" "isWrong" "Z", Cond.methodLink RX7 198 yX7_switches, Cond.instanceMethod yX7_switches, Cond.selects RX7 yX7_switches yX7_switches, Cond.code yX7_switches cX7_switches 3 none, Cond.methodLink RX7 201 yX7_chooses, Cond.instanceMethod yX7_chooses, Cond.selects RX7 yX7_chooses yX7_chooses, Cond.code yX7_chooses cX7_chooses 2 (some .int), Cond.methodLink RX7 205 yX7_stops, Cond.instanceMethod yX7_stops, Cond.selects RX7 yX7_stops yX7_stops, Cond.code yX7_stops cX7_stops 2 (some .int), Cond.methodLink RX7 209 yX7_status, Cond.instanceMethod yX7_status]
def wsX7_tell_r5 : List Cond := [Cond.selects RX7 yX7_status yX7_status, Cond.code yX7_status cX7_status 2 (some .int), Cond.methodLink RX7 188 yX7_streams, Cond.instanceMethod yX7_streams, Cond.selects RX7 yX7_streams yX7_streams, Cond.code yX7_streams cX7_streams 3 (some .int), Cond.fieldLink RX7 68 "BlockCardModel" "well" "I", Cond.methodLink RX7 212 yX7_isInWindow, Cond.instanceMethod yX7_isInWindow, Cond.selects RX7 yX7_isInWindow yX7_isInWindow, Cond.code yX7_isInWindow cX7_isInWindow 3 (some .boolean), Cond.fieldLink RX7 152 "BlockCardModel" "heat" "I", Cond.methodLink RX7 216 yX7_streamsFrom, Cond.instanceMethod yX7_streamsFrom, Cond.selects RX7 yX7_streamsFrom yX7_streamsFrom, Cond.code yX7_streamsFrom cX7_streamsFrom 4 (some .int), Cond.methodLink RX7 219 yX7_noting, Cond.instanceMethod yX7_noting, Cond.selects RX7 yX7_noting yX7_noting, Cond.code yX7_noting cX7_noting 2 (some .int), Cond.methodLink RX7 191 yX7_erases, Cond.instanceMethod yX7_erases, Cond.selects RX7 yX7_erases yX7_erases, Cond.code yX7_erases cX7_erases 3 (some .int)]
def wsX7_tell_r6 : List Cond := [Cond.fieldLink RX7 222 "BlockCardModel" "from" "I", Cond.fieldLink RX7 228 "BlockCardModel" "to" "I", Cond.methodLink RX7 225 yX7_endsAt, Cond.instanceMethod yX7_endsAt, Cond.selects RX7 yX7_endsAt yX7_endsAt, Cond.code yX7_endsAt cX7_endsAt 3 (some .int), Cond.methodLink RX7 231 yX7_erasesGroups, Cond.instanceMethod yX7_erasesGroups, Cond.selects RX7 yX7_erasesGroups yX7_erasesGroups, Cond.code yX7_erasesGroups cX7_erasesGroups 3 (some .int), Cond.methodLink RX7 234 yX7_locks, Cond.instanceMethod yX7_locks, Cond.selects RX7 yX7_locks yX7_locks, Cond.code yX7_locks cX7_locks 3 (some .int), Cond.methodLink RX7 237 yX7_isWord, Cond.instanceMethod yX7_isWord, Cond.selects RX7 yX7_isWord yX7_isWord, Cond.code yX7_isWord cX7_isWord 5 (some .boolean), Cond.fieldLink RX7 159 "BlockCardModel" "length" "I", Cond.fieldLink RX7 7 "BlockCardModel" "text" "[I", Cond.fieldLink RX7 19 "BlockCardModel" "word" "[I", Cond.methodLink RX7 241 yX7_sets, Cond.instanceMethod yX7_sets, Cond.selects RX7 yX7_sets yX7_sets]
def wsX7_tell_r7 : List Cond := [Cond.code yX7_sets cX7_sets 3 (some .boolean), Cond.methodLink RX7 244 yX7_groups, Cond.instanceMethod yX7_groups, Cond.selects RX7 yX7_groups yX7_groups, Cond.code yX7_groups cX7_groups 1 (some .int)]
def wsX7_tell : List Cond := .code yX7_tell cX7_tell 3 (some .int) :: ((wsX7_tell_r1 ++ (wsX7_tell_r2 ++ (wsX7_tell_r3 ++ (wsX7_tell_r4 ++ (wsX7_tell_r5 ++ (wsX7_tell_r6 ++ wsX7_tell_r7)))))) ++ wsX70)
def wsX7_give_r1 : List Cond := [Cond.constantLong RX7 50 (65535), Cond.constantLong RX7 177 (127), Cond.fieldLink RX7 78 "BlockCardModel" "isOn" "Z", Cond.fieldLink RX7 85 "BlockCardModel" "state" "I", Cond.fieldLink RX7 130 "BlockCardModel" "isWrong" "Z", Cond.fieldLink RX7 127 "BlockCardModel" "left" "I", Cond.fieldLink RX7 124 "BlockCardModel" "next" "I", Cond.fieldLink RX7 52 "BlockCardModel" "blocks" "I", Cond.fieldLink RX7 106 "BlockCardModel" "laterMany" "I", Cond.fieldLink RX7 103 "BlockCardModel" "notes" "I", Cond.fieldLink RX7 25 "BlockCardModel" "laterBlock" "[I", Cond.fieldLink RX7 28 "BlockCardModel" "laterContent" "[I", Cond.fieldLink RX7 31 "BlockCardModel" "laterTicks" "[I", Cond.methodLink RX7 42 yX7_in, Cond.static yX7_in, Cond.initialized RX7, Cond.code yX7_in cX7_in 6 (some .boolean), Cond.methodLink RX7 219 yX7_noting, Cond.instanceMethod yX7_noting, Cond.selects RX7 yX7_noting yX7_noting, Cond.code yX7_noting cX7_noting 2 (some .int), Cond.methodLink RX7 212 yX7_isInWindow, Cond.instanceMethod yX7_isInWindow, Cond.selects RX7 yX7_isInWindow yX7_isInWindow]
def wsX7_give_r2 : List Cond := [Cond.code yX7_isInWindow cX7_isInWindow 3 (some .boolean), Cond.fieldLink RX7 97 "BlockCardModel" "point" "I", Cond.fieldLink RX7 94 "BlockCardModel" "speed" "I", Cond.fieldLink RX7 152 "BlockCardModel" "heat" "I", Cond.methodLink RX7 247 yX7_checkOf, Cond.instanceMethod yX7_checkOf, Cond.selects RX7 yX7_checkOf yX7_checkOf, Cond.code yX7_checkOf cX7_checkOf 2 (some .int), Cond.methodLink RX7 165 yX7_checked, Cond.static yX7_checked, Cond.code yX7_checked cX7_checked 4 (some .int)]
def wsX7_give : List Cond := .code yX7_give cX7_give 3 (some .int) :: ((wsX7_give_r1 ++ wsX7_give_r2) ++ wsX70)
def wsX7_get : List Cond := .code yX7_get cX7_get 2 (some .int) :: ([.fieldLink RX7 78 "BlockCardModel" "isOn" "Z", .fieldLink RX7 85 "BlockCardModel" "state" "I", .fieldLink RX7 16 "BlockCardModel" "torn" "[I", .fieldLink RX7 124 "BlockCardModel" "next" "I", .fieldLink RX7 13 "BlockCardModel" "content" "[I", .fieldLink RX7 127 "BlockCardModel" "left" "I", .fieldLink RX7 52 "BlockCardModel" "blocks" "I", .methodLink RX7 212 yX7_isInWindow, .instanceMethod yX7_isInWindow, .selects RX7 yX7_isInWindow yX7_isInWindow, .initialized RX7, .code yX7_isInWindow cX7_isInWindow 3 (some .boolean), .fieldLink RX7 97 "BlockCardModel" "point" "I", .fieldLink RX7 94 "BlockCardModel" "speed" "I", .fieldLink RX7 152 "BlockCardModel" "heat" "I"] ++ wsX70)
def wsX7_writes : List Cond := .code yX7_writes cX7_writes 3 none :: ([.fieldLink RX7 31 "BlockCardModel" "laterTicks" "[I", .fieldLink RX7 91 "BlockCardModel" "lines" "I", .fieldLink RX7 25 "BlockCardModel" "laterBlock" "[I", .fieldLink RX7 13 "BlockCardModel" "content" "[I", .fieldLink RX7 28 "BlockCardModel" "laterContent" "[I", .fieldLink RX7 16 "BlockCardModel" "torn" "[I", .fieldLink RX7 74 "BlockCardModel" "latestMany" "I", .fieldLink RX7 22 "BlockCardModel" "latest" "[I", .fieldLink RX7 68 "BlockCardModel" "well" "I", .fieldLink RX7 106 "BlockCardModel" "laterMany" "I", .methodLink RX7 133 yX7_forgets, .instanceMethod yX7_forgets, .selects RX7 yX7_forgets yX7_forgets, .initialized RX7, .code yX7_forgets cX7_forgets 4 none] ++ wsX70)
def wsX7_oneTick_r1 : List Cond := [Cond.fieldLink RX7 65 "BlockCardModel" "ticks" "I", Cond.fieldLink RX7 78 "BlockCardModel" "isOn" "Z", Cond.fieldLink RX7 85 "BlockCardModel" "state" "I", Cond.fieldLink RX7 106 "BlockCardModel" "laterMany" "I", Cond.fieldLink RX7 109 "BlockCardModel" "eraseMany" "I", Cond.fieldLink RX7 112 "BlockCardModel" "eraseTicks" "I", Cond.fieldLink RX7 141 "BlockCardModel" "eraseFrom" "I", Cond.methodLink RX7 250 yX7_writes, Cond.instanceMethod yX7_writes, Cond.selects RX7 yX7_writes yX7_writes, Cond.initialized RX7, Cond.code yX7_writes cX7_writes 3 none, Cond.fieldLink RX7 31 "BlockCardModel" "laterTicks" "[I", Cond.fieldLink RX7 91 "BlockCardModel" "lines" "I", Cond.fieldLink RX7 25 "BlockCardModel" "laterBlock" "[I", Cond.fieldLink RX7 13 "BlockCardModel" "content" "[I", Cond.fieldLink RX7 28 "BlockCardModel" "laterContent" "[I", Cond.fieldLink RX7 16 "BlockCardModel" "torn" "[I", Cond.fieldLink RX7 74 "BlockCardModel" "latestMany" "I", Cond.fieldLink RX7 22 "BlockCardModel" "latest" "[I", Cond.fieldLink RX7 68 "BlockCardModel" "well" "I", Cond.methodLink RX7 133 yX7_forgets, Cond.instanceMethod yX7_forgets, Cond.selects RX7 yX7_forgets yX7_forgets]
def wsX7_oneTick_r2 : List Cond := [Cond.code yX7_forgets cX7_forgets 4 none, Cond.methodLink RX7 144 yX7_groupEmpties, Cond.instanceMethod yX7_groupEmpties, Cond.selects RX7 yX7_groupEmpties yX7_groupEmpties, Cond.code yX7_groupEmpties cX7_groupEmpties 4 none, Cond.fieldLink RX7 56 "BlockCardModel" "size" "I", Cond.fieldLink RX7 52 "BlockCardModel" "blocks" "I", Cond.methodLink RX7 137 yX7_empties, Cond.instanceMethod yX7_empties, Cond.selects RX7 yX7_empties yX7_empties, Cond.code yX7_empties cX7_empties 3 none, Cond.constant RX7 77 (65535)]
def wsX7_oneTick : List Cond := .code yX7_oneTick cX7_oneTick 1 none :: ((wsX7_oneTick_r1 ++ wsX7_oneTick_r2) ++ wsX70)
def wsX7_tick_r1 : List Cond := [Cond.constantLong RX7 253 (400), Cond.fieldLink RX7 65 "BlockCardModel" "ticks" "I", Cond.methodLink RX7 42 yX7_in, Cond.static yX7_in, Cond.initialized RX7, Cond.code yX7_in cX7_in 6 (some .boolean), Cond.methodLink RX7 255 yX7_oneTick, Cond.instanceMethod yX7_oneTick, Cond.selects RX7 yX7_oneTick yX7_oneTick, Cond.code yX7_oneTick cX7_oneTick 1 none, Cond.fieldLink RX7 78 "BlockCardModel" "isOn" "Z", Cond.fieldLink RX7 85 "BlockCardModel" "state" "I", Cond.fieldLink RX7 106 "BlockCardModel" "laterMany" "I", Cond.fieldLink RX7 109 "BlockCardModel" "eraseMany" "I", Cond.fieldLink RX7 112 "BlockCardModel" "eraseTicks" "I", Cond.fieldLink RX7 141 "BlockCardModel" "eraseFrom" "I", Cond.methodLink RX7 250 yX7_writes, Cond.instanceMethod yX7_writes, Cond.selects RX7 yX7_writes yX7_writes, Cond.code yX7_writes cX7_writes 3 none, Cond.fieldLink RX7 31 "BlockCardModel" "laterTicks" "[I", Cond.fieldLink RX7 91 "BlockCardModel" "lines" "I", Cond.fieldLink RX7 25 "BlockCardModel" "laterBlock" "[I", Cond.fieldLink RX7 13 "BlockCardModel" "content" "[I"]
def wsX7_tick_r2 : List Cond := [Cond.fieldLink RX7 28 "BlockCardModel" "laterContent" "[I", Cond.fieldLink RX7 16 "BlockCardModel" "torn" "[I", Cond.fieldLink RX7 74 "BlockCardModel" "latestMany" "I", Cond.fieldLink RX7 22 "BlockCardModel" "latest" "[I", Cond.fieldLink RX7 68 "BlockCardModel" "well" "I", Cond.methodLink RX7 133 yX7_forgets, Cond.instanceMethod yX7_forgets, Cond.selects RX7 yX7_forgets yX7_forgets, Cond.code yX7_forgets cX7_forgets 4 none, Cond.methodLink RX7 144 yX7_groupEmpties, Cond.instanceMethod yX7_groupEmpties, Cond.selects RX7 yX7_groupEmpties yX7_groupEmpties, Cond.code yX7_groupEmpties cX7_groupEmpties 4 none, Cond.fieldLink RX7 56 "BlockCardModel" "size" "I", Cond.fieldLink RX7 52 "BlockCardModel" "blocks" "I", Cond.methodLink RX7 137 yX7_empties, Cond.instanceMethod yX7_empties, Cond.selects RX7 yX7_empties yX7_empties, Cond.code yX7_empties cX7_empties 3 none, Cond.constant RX7 77 (65535)]
def wsX7_tick : List Cond := .code yX7_tick cX7_tick 3 (some .int) :: ((wsX7_tick_r1 ++ wsX7_tick_r2) ++ wsX70)
def wsX7_tune_r1 : List Cond := [Cond.methodLink RX7 258 yX7_tell, Cond.instanceMethod yX7_tell, Cond.selects RX7 yX7_tell yX7_tell, Cond.initialized RX7, Cond.code yX7_tell cX7_tell 3 (some .int), Cond.constantLong RX7 162 (63), Cond.constantLong RX7 50 (65535), Cond.methodLink RX7 42 yX7_in, Cond.static yX7_in, Cond.code yX7_in cX7_in 6 (some .boolean), Cond.methodLink RX7 179 yX7_check, Cond.instanceMethod yX7_check, Cond.selects RX7 yX7_check yX7_check, Cond.code yX7_check cX7_check 3 (some .int), Cond.constant RX7 164 (65536), Cond.methodLink RX7 165 yX7_checked, Cond.static yX7_checked, Cond.code yX7_checked cX7_checked 4 (some .int), Cond.methodLink RX7 194 yX7_send, Cond.instanceMethod yX7_send, Cond.selects RX7 yX7_send yX7_send, Cond.code yX7_send cX7_send 4 (some .int), Cond.constantLong RX7 177 (127), Cond.fieldLink RX7 78 "BlockCardModel" "isOn" "Z"]
def wsX7_tune_r2 : List Cond := [Cond.fieldLink RX7 103 "BlockCardModel" "notes" "I", Cond.fieldLink RX7 100 "BlockCardModel" "isLocked" "Z", Cond.fieldLink RX7 121 "BlockCardModel" "begun" "I", Cond.methodLink RX7 182 yX7_isOne, Cond.instanceMethod yX7_isOne, Cond.selects RX7 yX7_isOne yX7_isOne, Cond.code yX7_isOne cX7_isOne 2 (some .boolean), Cond.fieldLink RX7 85 "BlockCardModel" "state" "I", Cond.methodLink RX7 169 yX7_isStarred, Cond.static yX7_isStarred, Cond.code yX7_isStarred cX7_isStarred 1 (some .boolean), Cond.constantLong RX7 173 (21), Cond.constantLong RX7 175 (25), Cond.methodLink RX7 185 yX7_first, Cond.instanceMethod yX7_first, Cond.selects RX7 yX7_first yX7_first, Cond.code yX7_first cX7_first 3 (some .int), Cond.fieldLink RX7 118 "BlockCardModel" "woken" "I", Cond.fieldLink RX7 59 "BlockCardModel" "idleness" "I", Cond.fieldLink RX7 62 "BlockCardModel" "number" "I", Cond.fieldLink RX7 88 "BlockCardModel" "address" "I", Cond.fieldLink RX7 94 "BlockCardModel" "speed" "I", Cond.fieldLink RX7 91 "BlockCardModel" "lines" "I", Cond.methodLink RX7 147 yX7_cuts]
def wsX7_tune_r3 : List Cond := [Cond.instanceMethod yX7_cuts, Cond.selects RX7 yX7_cuts yX7_cuts, Cond.code yX7_cuts cX7_cuts 1 none, Cond.fieldLink RX7 106 "BlockCardModel" "laterMany" "I", Cond.fieldLink RX7 31 "BlockCardModel" "laterTicks" "[I", Cond.fieldLink RX7 25 "BlockCardModel" "laterBlock" "[I", Cond.fieldLink RX7 109 "BlockCardModel" "eraseMany" "I", Cond.fieldLink RX7 112 "BlockCardModel" "eraseTicks" "I", Cond.fieldLink RX7 141 "BlockCardModel" "eraseFrom" "I", Cond.methodLink RX7 137 yX7_empties, Cond.instanceMethod yX7_empties, Cond.selects RX7 yX7_empties yX7_empties, Cond.code yX7_empties cX7_empties 3 none, Cond.fieldLink RX7 13 "BlockCardModel" "content" "[I", Cond.constant RX7 77 (65535), Cond.fieldLink RX7 16 "BlockCardModel" "torn" "[I", Cond.methodLink RX7 133 yX7_forgets, Cond.instanceMethod yX7_forgets, Cond.selects RX7 yX7_forgets yX7_forgets, Cond.code yX7_forgets cX7_forgets 4 none, Cond.fieldLink RX7 74 "BlockCardModel" "latestMany" "I", Cond.fieldLink RX7 22 "BlockCardModel" "latest" "[I", Cond.methodLink RX7 144 yX7_groupEmpties, Cond.instanceMethod yX7_groupEmpties]
def wsX7_tune_r4 : List Cond := [Cond.selects RX7 yX7_groupEmpties yX7_groupEmpties, Cond.code yX7_groupEmpties cX7_groupEmpties 4 none, Cond.fieldLink RX7 56 "BlockCardModel" "size" "I", Cond.fieldLink RX7 52 "BlockCardModel" "blocks" "I", Cond.methodLink RX7 82 yX7_begins, Cond.instanceMethod yX7_begins, Cond.selects RX7 yX7_begins yX7_begins, Cond.code yX7_begins cX7_begins 1 none, Cond.fieldLink RX7 97 "BlockCardModel" "point" "I", Cond.fieldLink RX7 71 "BlockCardModel" "wordLong" "I", Cond.fieldLink RX7 115 "BlockCardModel" "told" "I", Cond.fieldLink RX7 124 "BlockCardModel" "next" "I", Cond.fieldLink RX7 127 "BlockCardModel" "left" "I", Cond.fieldLink RX7 130 "BlockCardModel" "isWrong" "Z", Cond.methodLink RX7 198 yX7_switches, Cond.instanceMethod yX7_switches, Cond.selects RX7 yX7_switches yX7_switches, Cond.code yX7_switches cX7_switches 3 none, Cond.methodLink RX7 201 yX7_chooses, Cond.instanceMethod yX7_chooses, Cond.selects RX7 yX7_chooses yX7_chooses, Cond.code yX7_chooses cX7_chooses 2 (some .int), Cond.methodLink RX7 205 yX7_stops, Cond.instanceMethod yX7_stops]
def wsX7_tune_r5 : List Cond := [Cond.selects RX7 yX7_stops yX7_stops, Cond.code yX7_stops cX7_stops 2 (some .int), Cond.methodLink RX7 209 yX7_status, Cond.instanceMethod yX7_status, Cond.selects RX7 yX7_status yX7_status, Cond.code yX7_status cX7_status 2 (some .int), Cond.methodLink RX7 188 yX7_streams, Cond.instanceMethod yX7_streams, Cond.selects RX7 yX7_streams yX7_streams, Cond.code yX7_streams cX7_streams 3 (some .int), Cond.fieldLink RX7 68 "BlockCardModel" "well" "I", Cond.methodLink RX7 212 yX7_isInWindow, Cond.instanceMethod yX7_isInWindow, Cond.selects RX7 yX7_isInWindow yX7_isInWindow, Cond.code yX7_isInWindow cX7_isInWindow 3 (some .boolean), Cond.fieldLink RX7 152 "BlockCardModel" "heat" "I", Cond.methodLink RX7 216 yX7_streamsFrom, Cond.instanceMethod yX7_streamsFrom, Cond.selects RX7 yX7_streamsFrom yX7_streamsFrom, Cond.code yX7_streamsFrom cX7_streamsFrom 4 (some .int), Cond.methodLink RX7 219 yX7_noting, Cond.instanceMethod yX7_noting, Cond.selects RX7 yX7_noting yX7_noting, Cond.code yX7_noting cX7_noting 2 (some .int)]
def wsX7_tune_r6 : List Cond := [Cond.methodLink RX7 191 yX7_erases, Cond.instanceMethod yX7_erases, Cond.selects RX7 yX7_erases yX7_erases, Cond.code yX7_erases cX7_erases 3 (some .int), Cond.fieldLink RX7 222 "BlockCardModel" "from" "I", Cond.fieldLink RX7 228 "BlockCardModel" "to" "I", Cond.methodLink RX7 225 yX7_endsAt, Cond.instanceMethod yX7_endsAt, Cond.selects RX7 yX7_endsAt yX7_endsAt, Cond.code yX7_endsAt cX7_endsAt 3 (some .int), Cond.methodLink RX7 231 yX7_erasesGroups, Cond.instanceMethod yX7_erasesGroups, Cond.selects RX7 yX7_erasesGroups yX7_erasesGroups, Cond.code yX7_erasesGroups cX7_erasesGroups 3 (some .int), Cond.methodLink RX7 234 yX7_locks, Cond.instanceMethod yX7_locks, Cond.selects RX7 yX7_locks yX7_locks, Cond.code yX7_locks cX7_locks 3 (some .int), Cond.methodLink RX7 237 yX7_isWord, Cond.instanceMethod yX7_isWord, Cond.selects RX7 yX7_isWord yX7_isWord, Cond.code yX7_isWord cX7_isWord 5 (some .boolean), Cond.fieldLink RX7 159 "BlockCardModel" "length" "I", Cond.fieldLink RX7 7 "BlockCardModel" "text" "[I"]
def wsX7_tune_r7 : List Cond := [Cond.fieldLink RX7 19 "BlockCardModel" "word" "[I", Cond.methodLink RX7 241 yX7_sets, Cond.instanceMethod yX7_sets, Cond.selects RX7 yX7_sets yX7_sets, Cond.code yX7_sets cX7_sets 3 (some .boolean), Cond.methodLink RX7 244 yX7_groups, Cond.instanceMethod yX7_groups, Cond.selects RX7 yX7_groups yX7_groups, Cond.code yX7_groups cX7_groups 1 (some .int)]
def wsX7_tune : List Cond := .code yX7_tune cX7_tune 6 (some .int) :: ((wsX7_tune_r1 ++ (wsX7_tune_r2 ++ (wsX7_tune_r3 ++ (wsX7_tune_r4 ++ (wsX7_tune_r5 ++ (wsX7_tune_r6 ++ wsX7_tune_r7)))))) ++ wsX70)
def wsX7_block : List Cond := .code yX7_block cX7_block 3 (some .int) :: ([.fieldLink RX7 52 "BlockCardModel" "blocks" "I", .constantLong RX7 261 (2), .fieldLink RX7 13 "BlockCardModel" "content" "[I", .fieldLink RX7 16 "BlockCardModel" "torn" "[I", .fieldLink RX7 56 "BlockCardModel" "size" "I", .methodLink RX7 42 yX7_in, .static yX7_in, .initialized RX7, .code yX7_in cX7_in 6 (some .boolean)] ++ wsX70)
def wsX7_latest : List Cond := .code yX7_latest cX7_latest 2 (some .int) :: ([.fieldLink RX7 74 "BlockCardModel" "latestMany" "I", .fieldLink RX7 22 "BlockCardModel" "latest" "[I"] ++ wsX70)
def wsX7_word : List Cond := .code yX7_word cX7_word 2 (some .int) :: ([.fieldLink RX7 71 "BlockCardModel" "wordLong" "I", .fieldLink RX7 19 "BlockCardModel" "word" "[I"] ++ wsX70)
def wsX7_later : List Cond := .code yX7_later cX7_later 3 (some .int) :: ([.constantLong RX7 261 (2), .fieldLink RX7 106 "BlockCardModel" "laterMany" "I", .fieldLink RX7 25 "BlockCardModel" "laterBlock" "[I", .fieldLink RX7 28 "BlockCardModel" "laterContent" "[I", .fieldLink RX7 31 "BlockCardModel" "laterTicks" "[I", .methodLink RX7 42 yX7_in, .static yX7_in, .initialized RX7, .code yX7_in cX7_in 6 (some .boolean)] ++ wsX70)
def wsX7_blocksThat : List Cond := .code yX7_blocksThat cX7_blocksThat 4 (some .int) :: ([.fieldLink RX7 52 "BlockCardModel" "blocks" "I", .fieldLink RX7 16 "BlockCardModel" "torn" "[I", .fieldLink RX7 13 "BlockCardModel" "content" "[I", .constant RX7 77 (65535)] ++ wsX70)
def wsX7_countPower : List Cond := .code yX7_countPower cX7_countPower 2 (some .int) :: ([.fieldLink RX7 88 "BlockCardModel" "address" "I", .fieldLink RX7 91 "BlockCardModel" "lines" "I", .fieldLink RX7 94 "BlockCardModel" "speed" "I", .fieldLink RX7 97 "BlockCardModel" "point" "I", .fieldLink RX7 78 "BlockCardModel" "isOn" "Z", .fieldLink RX7 100 "BlockCardModel" "isLocked" "Z", .fieldLink RX7 103 "BlockCardModel" "notes" "I", .fieldLink RX7 109 "BlockCardModel" "eraseMany" "I"] ++ wsX70)
def wsX7_count_r1 : List Cond := [Cond.fieldLink RX7 78 "BlockCardModel" "isOn" "Z", Cond.fieldLink RX7 85 "BlockCardModel" "state" "I", Cond.fieldLink RX7 52 "BlockCardModel" "blocks" "I", Cond.fieldLink RX7 56 "BlockCardModel" "size" "I", Cond.fieldLink RX7 68 "BlockCardModel" "well" "I", Cond.fieldLink RX7 65 "BlockCardModel" "ticks" "I", Cond.fieldLink RX7 152 "BlockCardModel" "heat" "I", Cond.fieldLink RX7 159 "BlockCardModel" "length" "I", Cond.fieldLink RX7 124 "BlockCardModel" "next" "I", Cond.fieldLink RX7 127 "BlockCardModel" "left" "I", Cond.methodLink RX7 263 yX7_countPower, Cond.instanceMethod yX7_countPower, Cond.selects RX7 yX7_countPower yX7_countPower, Cond.initialized RX7, Cond.code yX7_countPower cX7_countPower 2 (some .int), Cond.fieldLink RX7 88 "BlockCardModel" "address" "I", Cond.fieldLink RX7 91 "BlockCardModel" "lines" "I", Cond.fieldLink RX7 94 "BlockCardModel" "speed" "I", Cond.fieldLink RX7 97 "BlockCardModel" "point" "I", Cond.fieldLink RX7 100 "BlockCardModel" "isLocked" "Z", Cond.fieldLink RX7 103 "BlockCardModel" "notes" "I", Cond.fieldLink RX7 109 "BlockCardModel" "eraseMany" "I", Cond.methodLink RX7 266 yX7_blocksThat, Cond.instanceMethod yX7_blocksThat]
def wsX7_count_r2 : List Cond := [Cond.selects RX7 yX7_blocksThat yX7_blocksThat, Cond.code yX7_blocksThat cX7_blocksThat 4 (some .int), Cond.fieldLink RX7 16 "BlockCardModel" "torn" "[I", Cond.fieldLink RX7 13 "BlockCardModel" "content" "[I", Cond.constant RX7 77 (65535), Cond.methodLink RX7 212 yX7_isInWindow, Cond.instanceMethod yX7_isInWindow, Cond.selects RX7 yX7_isInWindow yX7_isInWindow, Cond.code yX7_isInWindow cX7_isInWindow 3 (some .boolean)]
def wsX7_count : List Cond := .code yX7_count cX7_count 3 (some .int) :: ((wsX7_count_r1 ++ wsX7_count_r2) ++ wsX70)
def wsJ9_max_7cf53 : List Cond := .code yJ9_max_7cf53 cJ9_max_7cf53 2 (some .int) :: ([])
def wsJ9_min_7cf53 : List Cond := .code yJ9_min_7cf53 cJ9_min_7cf53 2 (some .int) :: ([])
def wsL_law_r1 : List Cond := [Cond.classLink RL 7 RX6, Cond.instantiable RX6 17, Cond.initialized RX6, Cond.classLink RL 10 RX7, Cond.instantiable RX7 38, Cond.initialized RX7, Cond.methodLink RL 9 yX6_init, Cond.instanceMethod yX6_init, Cond.code yX6_init cX6_init 1 none, Cond.methodLink RX6 1 objectInit, Cond.instanceMethod objectInit, Cond.code objectInit ⟨#[0xb1]⟩ 1 none, Cond.classLink RX6 7 RX3, Cond.instantiable RX3 6, Cond.initialized RX3, Cond.fieldLink RX6 10 "BlockCard" "memory" "LBlockCard$Memory;", Cond.classLink RX6 16 RX1, Cond.instantiable RX1 2, Cond.initialized RX1, Cond.fieldLink RX6 21 "BlockCard" "text" "LBlockCard$Letters;", Cond.fieldLink RX6 25 "BlockCard" "secret" "LBlockCard$Letters;", Cond.classLink RX6 28 RX4, Cond.instantiable RX4 4, Cond.initialized RX4]
def wsL_law_r2 : List Cond := [Cond.fieldLink RX6 31 "BlockCard" "queue" "LBlockCard$Queue;", Cond.classLink RX6 35 RX0, Cond.instantiable RX0 6, Cond.initialized RX0, Cond.fieldLink RX6 38 "BlockCard" "eraser" "LBlockCard$Eraser;", Cond.classLink RX6 42 RX5, Cond.instantiable RX5 5, Cond.initialized RX5, Cond.fieldLink RX6 45 "BlockCard" "stream" "LBlockCard$Stream;", Cond.classLink RX6 49 RX2, Cond.instantiable RX2 3, Cond.initialized RX2, Cond.fieldLink RX6 52 "BlockCard" "link" "LBlockCard$Link;", Cond.instanceMethod yX3_init, Cond.code yX3_init cX3_init 1 none, Cond.methodLink RX3 3 objectInit, Cond.arrayClass .int, Cond.fieldLink RX3 9 "BlockCard$Memory" "contents" "[I", Cond.arrayClass .boolean, Cond.fieldLink RX3 15 "BlockCard$Memory" "torn" "[Z", Cond.fieldLink RX3 19 "BlockCard$Memory" "written" "[I", Cond.methodLink RX6 18 yX1_init, Cond.instanceMethod yX1_init, Cond.code yX1_init cX1_init 2 none]
def wsL_law_r3 : List Cond := [Cond.methodLink RX1 3 objectInit, Cond.methodLink RX1 9 Lib.Math.max.name, Cond.static Lib.Math.max.name, Cond.initialized "java/lang/Math", Cond.code Lib.Math.max.name Lib.Math.max.code 2 (some .int), Cond.fieldLink RX1 15 "BlockCard$Letters" "signs" "[I", Cond.instanceMethod yX4_init, Cond.code yX4_init cX4_init 1 none, Cond.methodLink RX4 3 objectInit, Cond.fieldLink RX4 9 "BlockCard$Queue" "places" "[I", Cond.fieldLink RX4 15 "BlockCard$Queue" "contents" "[I", Cond.instanceMethod yX0_init, Cond.code yX0_init cX0_init 1 none, Cond.methodLink RX0 3 objectInit, Cond.instanceMethod yX5_init, Cond.code yX5_init cX5_init 1 none, Cond.methodLink RX5 1 objectInit, Cond.instanceMethod yX2_init, Cond.code yX2_init cX2_init 1 none, Cond.methodLink RX2 3 objectInit, Cond.methodLink RX6 56 yX6_renew, Cond.instanceMethod yX6_renew, Cond.selects RX6 yX6_renew yX6_renew, Cond.code yX6_renew cX6_renew 5 none]
def wsL_law_r4 : List Cond := [Cond.fieldLink RX6 235 "BlockCard" "idleness" "I", Cond.fieldLink RX6 238 "BlockCard" "number" "I", Cond.fieldLink RX6 204 "BlockCard" "well" "I", Cond.fieldLink RX6 153 "BlockCard" "ticks" "I", Cond.methodLink RX6 241 yX3_clear, Cond.instanceMethod yX3_clear, Cond.selects RX3 yX3_clear yX3_clear, Cond.code yX3_clear cX3_clear 4 none, Cond.methodLink RX3 22 Lib.Math.min.name, Cond.static Lib.Math.min.name, Cond.code Lib.Math.min.name Lib.Math.min.code 2 (some .int), Cond.methodLink RX3 28 Lib.Math.max.name, Cond.fieldLink RX3 31 "BlockCard$Memory" "size" "I", Cond.fieldLink RX3 35 "BlockCard$Memory" "groupSize" "I", Cond.fieldLink RX3 38 "BlockCard$Memory" "writtenCount" "I", Cond.constant RX3 41 (65535), Cond.methodLink RX6 90 yX1_empty, Cond.instanceMethod yX1_empty, Cond.selects RX1 yX1_empty yX1_empty, Cond.code yX1_empty cX1_empty 1 none, Cond.fieldLink RX1 21 "BlockCard$Letters" "length" "I", Cond.methodLink RX6 75 yX6_goDark, Cond.instanceMethod yX6_goDark, Cond.selects RX6 yX6_goDark yX6_goDark]
def wsL_law_r5 : List Cond := [Cond.code yX6_goDark cX6_goDark 1 none, Cond.fieldLink RX6 111 "BlockCard" "state" "I", Cond.fieldLink RX6 185 "BlockCard" "address" "I", Cond.fieldLink RX6 201 "BlockCard" "notes" "I", Cond.fieldLink RX6 244 "BlockCard" "woken" "I", Cond.fieldLink RX6 197 "BlockCard" "locked" "Z", Cond.methodLink RX6 247 yX2_clear, Cond.instanceMethod yX2_clear, Cond.selects RX2 yX2_clear yX2_clear, Cond.code yX2_clear cX2_clear 1 none, Cond.fieldLink RX2 9 "BlockCard$Link" "lines" "I", Cond.fieldLink RX2 15 "BlockCard$Link" "speed" "I", Cond.fieldLink RX2 18 "BlockCard$Link" "point" "I", Cond.methodLink RX6 249 yX4_clear, Cond.instanceMethod yX4_clear, Cond.selects RX4 yX4_clear yX4_clear, Cond.code yX4_clear cX4_clear 1 none, Cond.fieldLink RX4 18 "BlockCard$Queue" "size" "I", Cond.fieldLink RX4 22 "BlockCard$Queue" "ticksOfFirst" "I", Cond.methodLink RX6 250 yX0_clear, Cond.instanceMethod yX0_clear, Cond.selects RX0 yX0_clear yX0_clear, Cond.code yX0_clear cX0_clear 1 none, Cond.fieldLink RX0 14 "BlockCard$Eraser" "lowest" "I"]
def wsL_law_r6 : List Cond := [Cond.fieldLink RX0 18 "BlockCard$Eraser" "left" "I", Cond.fieldLink RX0 21 "BlockCard$Eraser" "ticksOfLowest" "I", Cond.methodLink RX0 9 yX0_forget, Cond.instanceMethod yX0_forget, Cond.selects RX0 yX0_forget yX0_forget, Cond.code yX0_forget cX0_forget 1 none, Cond.fieldLink RX0 24 "BlockCard$Eraser" "begun" "I", Cond.fieldLink RX0 27 "BlockCard$Eraser" "from" "I", Cond.fieldLink RX0 30 "BlockCard$Eraser" "to" "I", Cond.methodLink RX6 251 yX5_clear, Cond.instanceMethod yX5_clear, Cond.selects RX5 yX5_clear yX5_clear, Cond.code yX5_clear cX5_clear 1 none, Cond.fieldLink RX5 7 "BlockCard$Stream" "expected" "I", Cond.fieldLink RX5 13 "BlockCard$Stream" "next" "I", Cond.fieldLink RX5 16 "BlockCard$Stream" "left" "I", Cond.fieldLink RX5 19 "BlockCard$Stream" "counted" "Z", Cond.fieldLink RX5 23 "BlockCard$Stream" "wrong" "Z", Cond.methodLink RL 12 yX7_init, Cond.instanceMethod yX7_init, Cond.code yX7_init cX7_init 1 none, Cond.methodLink RX7 1 objectInit, Cond.fieldLink RX7 7 "BlockCardModel" "text" "[I", Cond.fieldLink RX7 13 "BlockCardModel" "content" "[I"]
def wsL_law_r7 : List Cond := [Cond.fieldLink RX7 16 "BlockCardModel" "torn" "[I", Cond.fieldLink RX7 19 "BlockCardModel" "word" "[I", Cond.fieldLink RX7 22 "BlockCardModel" "latest" "[I", Cond.fieldLink RX7 25 "BlockCardModel" "laterBlock" "[I", Cond.fieldLink RX7 28 "BlockCardModel" "laterContent" "[I", Cond.fieldLink RX7 31 "BlockCardModel" "laterTicks" "[I", Cond.methodLink RX7 34 yX7_make, Cond.instanceMethod yX7_make, Cond.selects RX7 yX7_make yX7_make, Cond.code yX7_make cX7_make 6 (some .int), Cond.constantLong RX7 38 (4), Cond.constantLong RX7 40 (64), Cond.constantLong RX7 46 (8), Cond.constantLong RX7 48 (9), Cond.constantLong RX7 50 (65535), Cond.fieldLink RX7 52 "BlockCardModel" "blocks" "I", Cond.fieldLink RX7 56 "BlockCardModel" "size" "I", Cond.fieldLink RX7 59 "BlockCardModel" "idleness" "I", Cond.fieldLink RX7 62 "BlockCardModel" "number" "I", Cond.fieldLink RX7 65 "BlockCardModel" "ticks" "I", Cond.fieldLink RX7 68 "BlockCardModel" "well" "I", Cond.fieldLink RX7 71 "BlockCardModel" "wordLong" "I", Cond.fieldLink RX7 74 "BlockCardModel" "latestMany" "I", Cond.constant RX7 77 (65535)]
def wsL_law_r8 : List Cond := [Cond.fieldLink RX7 78 "BlockCardModel" "isOn" "Z", Cond.methodLink RX7 42 yX7_in, Cond.static yX7_in, Cond.code yX7_in cX7_in 6 (some .boolean), Cond.methodLink RX7 82 yX7_begins, Cond.instanceMethod yX7_begins, Cond.selects RX7 yX7_begins yX7_begins, Cond.code yX7_begins cX7_begins 1 none, Cond.fieldLink RX7 85 "BlockCardModel" "state" "I", Cond.fieldLink RX7 88 "BlockCardModel" "address" "I", Cond.fieldLink RX7 91 "BlockCardModel" "lines" "I", Cond.fieldLink RX7 94 "BlockCardModel" "speed" "I", Cond.fieldLink RX7 97 "BlockCardModel" "point" "I", Cond.fieldLink RX7 100 "BlockCardModel" "isLocked" "Z", Cond.fieldLink RX7 103 "BlockCardModel" "notes" "I", Cond.fieldLink RX7 106 "BlockCardModel" "laterMany" "I", Cond.fieldLink RX7 109 "BlockCardModel" "eraseMany" "I", Cond.fieldLink RX7 112 "BlockCardModel" "eraseTicks" "I", Cond.fieldLink RX7 115 "BlockCardModel" "told" "I", Cond.fieldLink RX7 118 "BlockCardModel" "woken" "I", Cond.fieldLink RX7 121 "BlockCardModel" "begun" "I", Cond.fieldLink RX7 124 "BlockCardModel" "next" "I", Cond.fieldLink RX7 127 "BlockCardModel" "left" "I", Cond.fieldLink RX7 130 "BlockCardModel" "isWrong" "Z"]
def wsL_law_r9 : List Cond := [Cond.methodLink RL 13 yX6_make, Cond.instanceMethod yX6_make, Cond.selects RX6 yX6_make yX6_make, Cond.code yX6_make cX6_make 5 (some .int), Cond.constant RX6 64 (65535), Cond.methodLink RX6 60 yX6_isOutside, Cond.static yX6_isOutside, Cond.code yX6_isOutside cX6_isOutside 3 (some .boolean), Cond.methodLink RL 17 yX7_make, Cond.methodLink RL 18 yX6_power, Cond.instanceMethod yX6_power, Cond.selects RX6 yX6_power yX6_power, Cond.code yX6_power cX6_power 2 (some .int), Cond.methodLink RX6 65 yX6_isPowered, Cond.instanceMethod yX6_isPowered, Cond.selects RX6 yX6_isPowered yX6_isPowered, Cond.code yX6_isPowered cX6_isPowered 1 (some .boolean), Cond.methodLink RX6 69 yX6_start, Cond.instanceMethod yX6_start, Cond.selects RX6 yX6_start yX6_start, Cond.code yX6_start cX6_start 1 none, Cond.methodLink RX6 86 yX1_length, Cond.instanceMethod yX1_length, Cond.selects RX1 yX1_length yX1_length]
def wsL_law_r10 : List Cond := [Cond.code yX1_length cX1_length 1 (some .int), Cond.methodLink RX6 72 yX6_tearUnfinished, Cond.instanceMethod yX6_tearUnfinished, Cond.selects RX6 yX6_tearUnfinished yX6_tearUnfinished, Cond.code yX6_tearUnfinished cX6_tearUnfinished 1 none, Cond.methodLink RX6 252 yX4_firstHasBegun, Cond.instanceMethod yX4_firstHasBegun, Cond.selects RX4 yX4_firstHasBegun yX4_firstHasBegun, Cond.code yX4_firstHasBegun cX4_firstHasBegun 1 (some .boolean), Cond.methodLink RX6 178 yX4_tellOf, Cond.instanceMethod yX4_tellOf, Cond.selects RX4 yX4_tellOf yX4_tellOf, Cond.code yX4_tellOf cX4_tellOf 3 (some .int), Cond.methodLink RX6 255 yX3_tear, Cond.instanceMethod yX3_tear, Cond.selects RX3 yX3_tear yX3_tear, Cond.code yX3_tear cX3_tear 2 none, Cond.methodLink RX3 54 yX3_blank, Cond.instanceMethod yX3_blank, Cond.selects RX3 yX3_blank yX3_blank, Cond.code yX3_blank cX3_blank 6 none, Cond.methodLink RX3 46 yX3_dropWritten, Cond.instanceMethod yX3_dropWritten, Cond.selects RX3 yX3_dropWritten yX3_dropWritten]
def wsL_law_r11 : List Cond := [Cond.code yX3_dropWritten cX3_dropWritten 5 none, Cond.methodLink RX6 258 yX0_groupHasBegun, Cond.instanceMethod yX0_groupHasBegun, Cond.selects RX0 yX0_groupHasBegun yX0_groupHasBegun, Cond.code yX0_groupHasBegun cX0_groupHasBegun 1 (some .boolean), Cond.methodLink RX6 261 yX0_group, Cond.instanceMethod yX0_group, Cond.selects RX0 yX0_group yX0_group, Cond.code yX0_group cX0_group 1 (some .int), Cond.methodLink RX6 264 yX3_tearGroup, Cond.instanceMethod yX3_tearGroup, Cond.selects RX3 yX3_tearGroup yX3_tearGroup, Cond.code yX3_tearGroup cX3_tearGroup 2 none, Cond.methodLink RL 22 yX7_power, Cond.instanceMethod yX7_power, Cond.selects RX7 yX7_power yX7_power, Cond.code yX7_power cX7_power 2 (some .int), Cond.methodLink RX7 147 yX7_cuts, Cond.instanceMethod yX7_cuts, Cond.selects RX7 yX7_cuts yX7_cuts, Cond.code yX7_cuts cX7_cuts 1 none, Cond.fieldLink RX7 141 "BlockCardModel" "eraseFrom" "I", Cond.methodLink RX7 137 yX7_empties, Cond.instanceMethod yX7_empties]
def wsL_law_r12 : List Cond := [Cond.selects RX7 yX7_empties yX7_empties, Cond.code yX7_empties cX7_empties 3 none, Cond.methodLink RX7 133 yX7_forgets, Cond.instanceMethod yX7_forgets, Cond.selects RX7 yX7_forgets yX7_forgets, Cond.code yX7_forgets cX7_forgets 4 none, Cond.methodLink RX7 144 yX7_groupEmpties, Cond.instanceMethod yX7_groupEmpties, Cond.selects RX7 yX7_groupEmpties yX7_groupEmpties, Cond.code yX7_groupEmpties cX7_groupEmpties 4 none, Cond.methodLink RL 23 yX6_warm, Cond.instanceMethod yX6_warm, Cond.selects RX6 yX6_warm yX6_warm, Cond.code yX6_warm cX6_warm 3 (some .int), Cond.fieldLink RX6 78 "BlockCard" "heat" "I", Cond.methodLink RL 26 yX7_warm, Cond.instanceMethod yX7_warm, Cond.selects RX7 yX7_warm yX7_warm, Cond.code yX7_warm cX7_warm 3 (some .int), Cond.constantLong RX7 150 (15), Cond.fieldLink RX7 152 "BlockCardModel" "heat" "I", Cond.methodLink RL 27 yX6_write, Cond.instanceMethod yX6_write, Cond.selects RX6 yX6_write yX6_write]
def wsL_law_r13 : List Cond := [Cond.code yX6_write cX6_write 2 (some .int), Cond.methodLink RX6 82 yX1_append, Cond.instanceMethod yX1_append, Cond.selects RX1 yX1_append yX1_append, Cond.code yX1_append cX1_append 2 (some .boolean), Cond.methodLink RL 30 yX7_write, Cond.instanceMethod yX7_write, Cond.selects RX7 yX7_write yX7_write, Cond.code yX7_write cX7_write 2 (some .int), Cond.constantLong RX7 155 (32), Cond.constantLong RX7 157 (126), Cond.fieldLink RX7 159 "BlockCardModel" "length" "I", Cond.methodLink RL 31 yX6_wipe, Cond.instanceMethod yX6_wipe, Cond.selects RX6 yX6_wipe yX6_wipe, Cond.code yX6_wipe cX6_wipe 2 (some .int), Cond.methodLink RL 35 yX7_wipe, Cond.instanceMethod yX7_wipe, Cond.selects RX7 yX7_wipe yX7_wipe, Cond.code yX7_wipe cX7_wipe 2 (some .int), Cond.methodLink RL 36 yX6_check, Cond.instanceMethod yX6_check, Cond.selects RX6 yX6_check yX6_check, Cond.code yX6_check cX6_check 3 (some .int)]
def wsL_law_r14 : List Cond := [Cond.methodLink RX6 93 yX6_isNoCommand, Cond.static yX6_isNoCommand, Cond.code yX6_isNoCommand cX6_isNoCommand 2 (some .boolean), Cond.methodLink RX6 97 yX6_commandCheck, Cond.static yX6_commandCheck, Cond.code yX6_commandCheck cX6_commandCheck 2 (some .int), Cond.constant RX6 225 (65536), Cond.methodLink RX6 226 yX6_checkOfBits, Cond.static yX6_checkOfBits, Cond.code yX6_checkOfBits cX6_checkOfBits 5 (some .int), Cond.methodLink RL 40 yX7_check, Cond.instanceMethod yX7_check, Cond.selects RX7 yX7_check yX7_check, Cond.code yX7_check cX7_check 3 (some .int), Cond.constantLong RX7 162 (63), Cond.constant RX7 164 (65536), Cond.methodLink RX7 165 yX7_checked, Cond.static yX7_checked, Cond.code yX7_checked cX7_checked 4 (some .int), Cond.methodLink RL 41 yX6_checkOf, Cond.instanceMethod yX6_checkOf, Cond.selects RX6 yX6_checkOf yX6_checkOf, Cond.code yX6_checkOf cX6_checkOf 2 (some .int), Cond.methodLink RX6 101 yX6_contentCheck]
def wsL_law_r15 : List Cond := [Cond.static yX6_contentCheck, Cond.code yX6_contentCheck cX6_contentCheck 1 (some .int), Cond.methodLink RL 44 yX7_checkOf, Cond.instanceMethod yX7_checkOf, Cond.selects RX7 yX7_checkOf yX7_checkOf, Cond.code yX7_checkOf cX7_checkOf 2 (some .int), Cond.methodLink RL 45 yX6_send, Cond.instanceMethod yX6_send, Cond.selects RX6 yX6_send yX6_send, Cond.code yX6_send cX6_send 4 (some .int), Cond.methodLink RX6 105 yX6_hears, Cond.instanceMethod yX6_hears, Cond.selects RX6 yX6_hears yX6_hears, Cond.code yX6_hears cX6_hears 4 (some .boolean), Cond.methodLink RX6 135 yX6_note, Cond.instanceMethod yX6_note, Cond.selects RX6 yX6_note yX6_note, Cond.code yX6_note cX6_note 2 none, Cond.methodLink RX6 267 yX6_isOpenTo, Cond.instanceMethod yX6_isOpenTo, Cond.selects RX6 yX6_isOpenTo yX6_isOpenTo, Cond.code yX6_isOpenTo cX6_isOpenTo 2 (some .boolean), Cond.methodLink RX6 229 yX6_isBarredByLock, Cond.static yX6_isBarredByLock]
def wsL_law_r16 : List Cond := [Cond.code yX6_isBarredByLock cX6_isBarredByLock 1 (some .boolean), Cond.methodLink RX6 276 yX6_statesOf, Cond.static yX6_statesOf, Cond.code yX6_statesOf cX6_statesOf 1 (some .int), Cond.methodLink RX6 270 yX0_isBrokenOffBy, Cond.instanceMethod yX0_isBrokenOffBy, Cond.selects RX0 yX0_isBrokenOffBy yX0_isBrokenOffBy, Cond.code yX0_isBrokenOffBy cX0_isBrokenOffBy 3 (some .boolean), Cond.methodLink RX6 273 yX0_forget, Cond.methodLink RX6 108 yX6_obey, Cond.instanceMethod yX6_obey, Cond.selects RX6 yX6_obey yX6_obey, Cond.code yX6_obey cX6_obey 3 (some .int), Cond.methodLink RX6 279 yX6_reset, Cond.instanceMethod yX6_reset, Cond.selects RX6 yX6_reset yX6_reset, Cond.code yX6_reset cX6_reset 1 (some .int), Cond.methodLink RX6 282 yX6_wake, Cond.instanceMethod yX6_wake, Cond.selects RX6 yX6_wake yX6_wake, Cond.code yX6_wake cX6_wake 1 (some .int), Cond.methodLink RX6 285 yX6_tellNumber, Cond.instanceMethod yX6_tellNumber, Cond.selects RX6 yX6_tellNumber yX6_tellNumber]
def wsL_law_r17 : List Cond := [Cond.code yX6_tellNumber cX6_tellNumber 1 (some .int), Cond.methodLink RX6 288 yX6_takeAddress, Cond.instanceMethod yX6_takeAddress, Cond.selects RX6 yX6_takeAddress yX6_takeAddress, Cond.code yX6_takeAddress cX6_takeAddress 1 (some .int), Cond.methodLink RX6 291 yX6_choose, Cond.instanceMethod yX6_choose, Cond.selects RX6 yX6_choose yX6_choose, Cond.code yX6_choose cX6_choose 3 (some .int), Cond.methodLink RX6 294 yX6_tellStatus, Cond.instanceMethod yX6_tellStatus, Cond.selects RX6 yX6_tellStatus yX6_tellStatus, Cond.code yX6_tellStatus cX6_tellStatus 3 (some .int), Cond.methodLink RX6 162 yX6_asNumber, Cond.static yX6_asNumber, Cond.code yX6_asNumber cX6_asNumber 1 (some .int), Cond.methodLink RX6 297 yX6_switchLines, Cond.instanceMethod yX6_switchLines, Cond.selects RX6 yX6_switchLines yX6_switchLines, Cond.code yX6_switchLines cX6_switchLines 2 (some .int), Cond.methodLink RX6 325 yX2_change, Cond.instanceMethod yX2_change, Cond.selects RX2 yX2_change yX2_change, Cond.code yX2_change cX2_change 3 (some .boolean)]
def wsL_law_r18 : List Cond := [Cond.methodLink RX6 191 yX2_speed, Cond.instanceMethod yX2_speed, Cond.selects RX2 yX2_speed yX2_speed, Cond.code yX2_speed cX2_speed 1 (some .int), Cond.methodLink RX6 188 yX2_lines, Cond.instanceMethod yX2_lines, Cond.selects RX2 yX2_lines yX2_lines, Cond.code yX2_lines cX2_lines 1 (some .int), Cond.methodLink RX6 300 yX6_movePoint, Cond.instanceMethod yX6_movePoint, Cond.selects RX6 yX6_movePoint yX6_movePoint, Cond.code yX6_movePoint cX6_movePoint 2 (some .int), Cond.methodLink RX6 328 yX2_look, Cond.instanceMethod yX2_look, Cond.selects RX2 yX2_look yX2_look, Cond.code yX2_look cX2_look 2 none, Cond.methodLink RX6 132 yX2_isInWindow, Cond.instanceMethod yX2_isInWindow, Cond.selects RX2 yX2_isInWindow yX2_isInWindow, Cond.code yX2_isInWindow cX2_isInWindow 5 (some .boolean), Cond.methodLink RX2 27 Lib.Math.min.name, Cond.methodLink RX2 21 yJ9_floorMod_7cf53, Cond.static yJ9_floorMod_7cf53, Cond.initialized RJ9]
def wsL_law_r19 : List Cond := [Cond.code yJ9_floorMod_7cf53 cJ9_floorMod_7cf53 3 (some .int), Cond.methodLink RX6 303 yX6_expect, Cond.instanceMethod yX6_expect, Cond.selects RX6 yX6_expect yX6_expect, Cond.code yX6_expect cX6_expect 2 (some .int), Cond.methodLink RX6 331 yX5_expect, Cond.instanceMethod yX5_expect, Cond.selects RX5 yX5_expect yX5_expect, Cond.code yX5_expect cX5_expect 2 none, Cond.methodLink RX6 306 yX6_beginStream, Cond.instanceMethod yX6_beginStream, Cond.selects RX6 yX6_beginStream yX6_beginStream, Cond.code yX6_beginStream cX6_beginStream 4 (some .int), Cond.methodLink RX6 123 yX3_has, Cond.instanceMethod yX3_has, Cond.selects RX3 yX3_has yX3_has, Cond.code yX3_has cX3_has 2 (some .boolean), Cond.methodLink RX6 126 yX6_refuse, Cond.instanceMethod yX6_refuse, Cond.selects RX6 yX6_refuse yX6_refuse, Cond.code yX6_refuse cX6_refuse 2 (some .int), Cond.methodLink RX6 333 yX5_begin, Cond.instanceMethod yX5_begin, Cond.selects RX5 yX5_begin yX5_begin]
def wsL_law_r20 : List Cond := [Cond.code yX5_begin cX5_begin 3 none, Cond.methodLink RX6 310 yX6_stop, Cond.instanceMethod yX6_stop, Cond.selects RX6 yX6_stop yX6_stop, Cond.code yX6_stop cX6_stop 2 (some .int), Cond.methodLink RX6 175 yX4_size, Cond.instanceMethod yX4_size, Cond.selects RX4 yX4_size yX4_size, Cond.code yX4_size cX4_size 1 (some .int), Cond.methodLink RX6 313 yX6_eraseFrom, Cond.instanceMethod yX6_eraseFrom, Cond.selects RX6 yX6_eraseFrom yX6_eraseFrom, Cond.code yX6_eraseFrom cX6_eraseFrom 2 (some .int), Cond.methodLink RX6 337 yX0_beginFrom, Cond.instanceMethod yX0_beginFrom, Cond.selects RX0 yX0_beginFrom yX0_beginFrom, Cond.code yX0_beginFrom cX0_beginFrom 2 none, Cond.methodLink RX6 316 yX6_eraseTo, Cond.instanceMethod yX6_eraseTo, Cond.selects RX6 yX6_eraseTo yX6_eraseTo, Cond.code yX6_eraseTo cX6_eraseTo 2 (some .int), Cond.methodLink RX6 340 yX0_continueTo, Cond.instanceMethod yX0_continueTo, Cond.selects RX0 yX0_continueTo yX0_continueTo]
def wsL_law_r21 : List Cond := [Cond.code yX0_continueTo cX0_continueTo 2 (some .boolean), Cond.methodLink RX6 319 yX6_erase, Cond.instanceMethod yX6_erase, Cond.selects RX6 yX6_erase yX6_erase, Cond.code yX6_erase cX6_erase 1 (some .int), Cond.methodLink RX6 343 yX0_isReady, Cond.instanceMethod yX0_isReady, Cond.selects RX0 yX0_isReady yX0_isReady, Cond.code yX0_isReady cX0_isReady 1 (some .boolean), Cond.methodLink RX6 346 yX0_from, Cond.instanceMethod yX0_from, Cond.selects RX0 yX0_from yX0_from, Cond.code yX0_from cX0_from 1 (some .int), Cond.methodLink RX6 166 yX3_groupOf, Cond.instanceMethod yX3_groupOf, Cond.selects RX3 yX3_groupOf yX3_groupOf, Cond.code yX3_groupOf cX3_groupOf 2 (some .int), Cond.methodLink RX6 349 yX0_to, Cond.instanceMethod yX0_to, Cond.selects RX0 yX0_to yX0_to, Cond.code yX0_to cX0_to 1 (some .int), Cond.methodLink RX6 352 yX6_beginErasing, Cond.instanceMethod yX6_beginErasing, Cond.selects RX6 yX6_beginErasing yX6_beginErasing]
def wsL_law_r22 : List Cond := [Cond.code yX6_beginErasing cX6_beginErasing 3 (some .int), Cond.methodLink RX6 355 yX0_begin, Cond.instanceMethod yX0_begin, Cond.selects RX0 yX0_begin yX0_begin, Cond.code yX0_begin cX0_begin 3 none, Cond.methodLink RX6 207 yX0_groupsLeft, Cond.instanceMethod yX0_groupsLeft, Cond.selects RX0 yX0_groupsLeft yX0_groupsLeft, Cond.code yX0_groupsLeft cX0_groupsLeft 1 (some .int), Cond.methodLink RX6 322 yX6_changeLock, Cond.instanceMethod yX6_changeLock, Cond.selects RX6 yX6_changeLock yX6_changeLock, Cond.code yX6_changeLock cX6_changeLock 2 (some .int), Cond.methodLink RX6 357 yX6_unlock, Cond.instanceMethod yX6_unlock, Cond.selects RX6 yX6_unlock yX6_unlock, Cond.code yX6_unlock cX6_unlock 1 (some .int), Cond.methodLink RX6 376 yX6_textIsSecret, Cond.instanceMethod yX6_textIsSecret, Cond.selects RX6 yX6_textIsSecret yX6_textIsSecret, Cond.code yX6_textIsSecret cX6_textIsSecret 1 (some .boolean), Cond.methodLink RX6 372 yX1_startsWith, Cond.instanceMethod yX1_startsWith, Cond.selects RX1 yX1_startsWith yX1_startsWith]
def wsL_law_r23 : List Cond := [Cond.code yX1_startsWith cX1_startsWith 3 (some .boolean), Cond.methodLink RX1 25 yX1_at, Cond.instanceMethod yX1_at, Cond.selects RX1 yX1_at yX1_at, Cond.code yX1_at cX1_at 2 (some .int), Cond.methodLink RX6 360 yX6_setSecret, Cond.instanceMethod yX6_setSecret, Cond.selects RX6 yX6_setSecret yX6_setSecret, Cond.code yX6_setSecret cX6_setSecret 3 (some .int), Cond.methodLink RX6 379 yX1_becomeTail, Cond.instanceMethod yX1_becomeTail, Cond.selects RX1 yX1_becomeTail yX1_becomeTail, Cond.code yX1_becomeTail cX1_becomeTail 4 none, Cond.methodLink RX1 29 yX1_empty, Cond.methodLink RX1 32 yX1_append, Cond.methodLink RX6 363 yX6_clearSecret, Cond.instanceMethod yX6_clearSecret, Cond.selects RX6 yX6_clearSecret yX6_clearSecret, Cond.code yX6_clearSecret cX6_clearSecret 1 (some .int), Cond.methodLink RX6 366 yX6_lock, Cond.instanceMethod yX6_lock, Cond.selects RX6 yX6_lock yX6_lock, Cond.code yX6_lock cX6_lock 1 (some .int), Cond.methodLink RX6 369 yX6_force]
def wsL_law_r24 : List Cond := [Cond.instanceMethod yX6_force, Cond.selects RX6 yX6_force yX6_force, Cond.code yX6_force cX6_force 1 (some .int), Cond.methodLink RX6 181 yX3_size, Cond.instanceMethod yX3_size, Cond.selects RX3 yX3_size yX3_size, Cond.code yX3_size cX3_size 1 (some .int), Cond.methodLink RL 49 yX7_send, Cond.instanceMethod yX7_send, Cond.selects RX7 yX7_send yX7_send, Cond.code yX7_send cX7_send 4 (some .int), Cond.constantLong RX7 177 (127), Cond.methodLink RX7 179 yX7_check, Cond.methodLink RX7 182 yX7_isOne, Cond.instanceMethod yX7_isOne, Cond.selects RX7 yX7_isOne yX7_isOne, Cond.code yX7_isOne cX7_isOne 2 (some .boolean), Cond.methodLink RX7 169 yX7_isStarred, Cond.static yX7_isStarred, Cond.code yX7_isStarred cX7_isStarred 1 (some .boolean), Cond.constantLong RX7 173 (21), Cond.constantLong RX7 175 (25), Cond.methodLink RX7 185 yX7_first, Cond.instanceMethod yX7_first]
def wsL_law_r25 : List Cond := [Cond.selects RX7 yX7_first yX7_first, Cond.code yX7_first cX7_first 3 (some .int), Cond.methodLink RX7 198 yX7_switches, Cond.instanceMethod yX7_switches, Cond.selects RX7 yX7_switches yX7_switches, Cond.code yX7_switches cX7_switches 3 none, Cond.methodLink RX7 201 yX7_chooses, Cond.instanceMethod yX7_chooses, Cond.selects RX7 yX7_chooses yX7_chooses, Cond.code yX7_chooses cX7_chooses 2 (some .int), Cond.methodLink RX7 205 yX7_stops, Cond.instanceMethod yX7_stops, Cond.selects RX7 yX7_stops yX7_stops, Cond.code yX7_stops cX7_stops 2 (some .int), Cond.methodLink RX7 209 yX7_status, Cond.instanceMethod yX7_status, Cond.selects RX7 yX7_status yX7_status, Cond.code yX7_status cX7_status 2 (some .int), Cond.methodLink RX7 188 yX7_streams, Cond.instanceMethod yX7_streams, Cond.selects RX7 yX7_streams yX7_streams, Cond.code yX7_streams cX7_streams 3 (some .int), Cond.methodLink RX7 212 yX7_isInWindow, Cond.instanceMethod yX7_isInWindow]
def wsL_law_r26 : List Cond := [Cond.selects RX7 yX7_isInWindow yX7_isInWindow, Cond.code yX7_isInWindow cX7_isInWindow 3 (some .boolean), Cond.methodLink RX7 216 yX7_streamsFrom, Cond.instanceMethod yX7_streamsFrom, Cond.selects RX7 yX7_streamsFrom yX7_streamsFrom, Cond.code yX7_streamsFrom cX7_streamsFrom 4 (some .int), Cond.methodLink RX7 219 yX7_noting, Cond.instanceMethod yX7_noting, Cond.selects RX7 yX7_noting yX7_noting, Cond.code yX7_noting cX7_noting 2 (some .int), Cond.methodLink RX7 191 yX7_erases, Cond.instanceMethod yX7_erases, Cond.selects RX7 yX7_erases yX7_erases, Cond.code yX7_erases cX7_erases 3 (some .int), Cond.fieldLink RX7 222 "BlockCardModel" "from" "I", Cond.fieldLink RX7 228 "BlockCardModel" "to" "I", Cond.methodLink RX7 225 yX7_endsAt, Cond.instanceMethod yX7_endsAt, Cond.selects RX7 yX7_endsAt yX7_endsAt, Cond.code yX7_endsAt cX7_endsAt 3 (some .int), Cond.methodLink RX7 231 yX7_erasesGroups, Cond.instanceMethod yX7_erasesGroups, Cond.selects RX7 yX7_erasesGroups yX7_erasesGroups, Cond.code yX7_erasesGroups cX7_erasesGroups 3 (some .int)]
def wsL_law_r27 : List Cond := [Cond.methodLink RX7 234 yX7_locks, Cond.instanceMethod yX7_locks, Cond.selects RX7 yX7_locks yX7_locks, Cond.code yX7_locks cX7_locks 3 (some .int), Cond.methodLink RX7 237 yX7_isWord, Cond.instanceMethod yX7_isWord, Cond.selects RX7 yX7_isWord yX7_isWord, Cond.code yX7_isWord cX7_isWord 5 (some .boolean), Cond.methodLink RX7 241 yX7_sets, Cond.instanceMethod yX7_sets, Cond.selects RX7 yX7_sets yX7_sets, Cond.code yX7_sets cX7_sets 3 (some .boolean), Cond.methodLink RX7 244 yX7_groups, Cond.instanceMethod yX7_groups, Cond.selects RX7 yX7_groups yX7_groups, Cond.code yX7_groups cX7_groups 1 (some .int), Cond.methodLink RL 50 yX6_tell, Cond.instanceMethod yX6_tell, Cond.selects RX6 yX6_tell yX6_tell, Cond.code yX6_tell cX6_tell 3 (some .int), Cond.methodLink RL 53 yX7_tell, Cond.instanceMethod yX7_tell, Cond.selects RX7 yX7_tell yX7_tell, Cond.code yX7_tell cX7_tell 3 (some .int)]
def wsL_law_r28 : List Cond := [Cond.methodLink RX7 194 yX7_send, Cond.methodLink RL 54 yX6_give, Cond.instanceMethod yX6_give, Cond.selects RX6 yX6_give yX6_give, Cond.code yX6_give cX6_give 3 (some .int), Cond.methodLink RX6 114 yX5_isWrong, Cond.instanceMethod yX5_isWrong, Cond.selects RX5 yX5_isWrong yX5_isWrong, Cond.code yX5_isWrong cX5_isWrong 1 (some .boolean), Cond.methodLink RX6 117 yX5_isComplete, Cond.instanceMethod yX5_isComplete, Cond.selects RX5 yX5_isComplete yX5_isComplete, Cond.code yX5_isComplete cX5_isComplete 1 (some .boolean), Cond.methodLink RX6 120 yX5_next, Cond.instanceMethod yX5_next, Cond.selects RX5 yX5_next yX5_next, Cond.code yX5_next cX5_next 1 (some .int), Cond.methodLink RX6 129 yX4_isFull, Cond.instanceMethod yX4_isFull, Cond.selects RX4 yX4_isFull yX4_isFull, Cond.code yX4_isFull cX4_isFull 1 (some .boolean), Cond.methodLink RX6 138 yX5_spoil, Cond.instanceMethod yX5_spoil, Cond.selects RX5 yX5_spoil yX5_spoil]
def wsL_law_r29 : List Cond := [Cond.code yX5_spoil cX5_spoil 1 none, Cond.methodLink RX6 141 yX4_append, Cond.instanceMethod yX4_append, Cond.selects RX4 yX4_append yX4_append, Cond.code yX4_append cX4_append 3 none, Cond.methodLink RX6 144 yX5_advance, Cond.instanceMethod yX5_advance, Cond.selects RX5 yX5_advance yX5_advance, Cond.code yX5_advance cX5_advance 1 none, Cond.methodLink RL 57 yX7_give, Cond.instanceMethod yX7_give, Cond.selects RX7 yX7_give yX7_give, Cond.code yX7_give cX7_give 3 (some .int), Cond.methodLink RX7 247 yX7_checkOf, Cond.methodLink RL 58 yX6_get, Cond.instanceMethod yX6_get, Cond.selects RX6 yX6_get yX6_get, Cond.code yX6_get cX6_get 2 (some .int), Cond.methodLink RX6 147 yX3_isTorn, Cond.instanceMethod yX3_isTorn, Cond.selects RX3 yX3_isTorn yX3_isTorn, Cond.code yX3_isTorn cX3_isTorn 2 (some .boolean), Cond.methodLink RX3 42 yX3_has, Cond.methodLink RX6 150 yX3_contentOf]
def wsL_law_r30 : List Cond := [Cond.instanceMethod yX3_contentOf, Cond.selects RX3 yX3_contentOf yX3_contentOf, Cond.code yX3_contentOf cX3_contentOf 2 (some .int), Cond.methodLink RL 61 yX7_get, Cond.instanceMethod yX7_get, Cond.selects RX7 yX7_get yX7_get, Cond.code yX7_get cX7_get 2 (some .int), Cond.methodLink RL 62 yX6_tick, Cond.instanceMethod yX6_tick, Cond.selects RX6 yX6_tick yX6_tick, Cond.code yX6_tick cX6_tick 3 (some .int), Cond.methodLink RX6 156 yX6_work, Cond.instanceMethod yX6_work, Cond.selects RX6 yX6_work yX6_work, Cond.code yX6_work cX6_work 1 none, Cond.methodLink RX6 383 yX6_writeFurther, Cond.instanceMethod yX6_writeFurther, Cond.selects RX6 yX6_writeFurther yX6_writeFurther, Cond.code yX6_writeFurther cX6_writeFurther 1 none, Cond.methodLink RX6 389 yX4_tickFirst, Cond.instanceMethod yX4_tickFirst, Cond.selects RX4 yX4_tickFirst yX4_tickFirst, Cond.code yX4_tickFirst cX4_tickFirst 1 none, Cond.methodLink RX6 392 yX2_ticksOfBlock]
def wsL_law_r31 : List Cond := [Cond.instanceMethod yX2_ticksOfBlock, Cond.selects RX2 yX2_ticksOfBlock yX2_ticksOfBlock, Cond.code yX2_ticksOfBlock cX2_ticksOfBlock 1 (some .int), Cond.methodLink RX6 395 yX3_put, Cond.instanceMethod yX3_put, Cond.selects RX3 yX3_put yX3_put, Cond.code yX3_put cX3_put 3 none, Cond.methodLink RX3 50 yX3_addWrittenFirst, Cond.instanceMethod yX3_addWrittenFirst, Cond.selects RX3 yX3_addWrittenFirst yX3_addWrittenFirst, Cond.code yX3_addWrittenFirst cX3_addWrittenFirst 3 none, Cond.methodLink RX6 398 yX4_dropFirst, Cond.instanceMethod yX4_dropFirst, Cond.selects RX4 yX4_dropFirst yX4_dropFirst, Cond.code yX4_dropFirst cX4_dropFirst 2 none, Cond.methodLink RX4 25 Lib.Math.max.name, Cond.methodLink RX6 386 yX6_eraseFurther, Cond.instanceMethod yX6_eraseFurther, Cond.selects RX6 yX6_eraseFurther yX6_eraseFurther, Cond.code yX6_eraseFurther cX6_eraseFurther 2 none, Cond.methodLink RX6 401 yX0_tickGroup, Cond.instanceMethod yX0_tickGroup, Cond.selects RX0 yX0_tickGroup yX0_tickGroup, Cond.code yX0_tickGroup cX0_tickGroup 1 (some .boolean)]
def wsL_law_r32 : List Cond := [Cond.methodLink RX6 404 yX3_eraseGroup, Cond.instanceMethod yX3_eraseGroup, Cond.selects RX3 yX3_eraseGroup yX3_eraseGroup, Cond.code yX3_eraseGroup cX3_eraseGroup 2 none, Cond.methodLink RL 65 yX7_tick, Cond.instanceMethod yX7_tick, Cond.selects RX7 yX7_tick yX7_tick, Cond.code yX7_tick cX7_tick 3 (some .int), Cond.constantLong RX7 253 (400), Cond.methodLink RX7 255 yX7_oneTick, Cond.instanceMethod yX7_oneTick, Cond.selects RX7 yX7_oneTick yX7_oneTick, Cond.code yX7_oneTick cX7_oneTick 1 none, Cond.methodLink RX7 250 yX7_writes, Cond.instanceMethod yX7_writes, Cond.selects RX7 yX7_writes yX7_writes, Cond.code yX7_writes cX7_writes 3 none, Cond.methodLink RL 66 yX6_tune, Cond.instanceMethod yX6_tune, Cond.selects RX6 yX6_tune yX6_tune, Cond.code yX6_tune cX6_tune 3 (some .int), Cond.methodLink RX6 159 yX6_middleOfLongestRow, Cond.static yX6_middleOfLongestRow, Cond.code yX6_middleOfLongestRow cX6_middleOfLongestRow 5 (some .int)]
def wsL_law_r33 : List Cond := [Cond.methodLink RX6 232 yX6_rowLength, Cond.static yX6_rowLength, Cond.code yX6_rowLength cX6_rowLength 3 (some .int), Cond.methodLink RL 69 yX7_tune, Cond.instanceMethod yX7_tune, Cond.selects RX7 yX7_tune yX7_tune, Cond.code yX7_tune cX7_tune 6 (some .int), Cond.methodLink RX7 258 yX7_tell, Cond.methodLink RL 70 yX6_block, Cond.instanceMethod yX6_block, Cond.selects RX6 yX6_block yX6_block, Cond.code yX6_block cX6_block 3 (some .int), Cond.methodLink RL 73 yX7_block, Cond.instanceMethod yX7_block, Cond.selects RX7 yX7_block yX7_block, Cond.code yX7_block cX7_block 3 (some .int), Cond.constantLong RX7 261 (2), Cond.methodLink RL 74 yX6_latest, Cond.instanceMethod yX6_latest, Cond.selects RX6 yX6_latest yX6_latest, Cond.code yX6_latest cX6_latest 2 (some .int), Cond.methodLink RX6 169 yX3_writtenAt, Cond.instanceMethod yX3_writtenAt, Cond.selects RX3 yX3_writtenAt yX3_writtenAt]
def wsL_law_r34 : List Cond := [Cond.code yX3_writtenAt cX3_writtenAt 2 (some .int), Cond.methodLink RL 77 yX7_latest, Cond.instanceMethod yX7_latest, Cond.selects RX7 yX7_latest yX7_latest, Cond.code yX7_latest cX7_latest 2 (some .int), Cond.methodLink RL 78 yX6_word, Cond.instanceMethod yX6_word, Cond.selects RX6 yX6_word yX6_word, Cond.code yX6_word cX6_word 2 (some .int), Cond.methodLink RX6 172 yX1_at, Cond.methodLink RL 81 yX7_word, Cond.instanceMethod yX7_word, Cond.selects RX7 yX7_word yX7_word, Cond.code yX7_word cX7_word 2 (some .int), Cond.methodLink RL 82 yX6_later, Cond.instanceMethod yX6_later, Cond.selects RX6 yX6_later yX6_later, Cond.code yX6_later cX6_later 3 (some .int), Cond.methodLink RL 85 yX7_later, Cond.instanceMethod yX7_later, Cond.selects RX7 yX7_later yX7_later, Cond.code yX7_later cX7_later 3 (some .int), Cond.methodLink RL 86 yX6_count, Cond.instanceMethod yX6_count]
def wsL_law_r35 : List Cond := [Cond.selects RX6 yX6_count yX6_count, Cond.code yX6_count cX6_count 2 (some .int), Cond.methodLink RX6 182 yX3_groupSize, Cond.instanceMethod yX3_groupSize, Cond.selects RX3 yX3_groupSize yX3_groupSize, Cond.code yX3_groupSize cX3_groupSize 1 (some .int), Cond.methodLink RX6 194 yX2_point, Cond.instanceMethod yX2_point, Cond.selects RX2 yX2_point yX2_point, Cond.code yX2_point cX2_point 1 (some .int), Cond.methodLink RX6 210 yX3_tornBlocks, Cond.instanceMethod yX3_tornBlocks, Cond.selects RX3 yX3_tornBlocks yX3_tornBlocks, Cond.code yX3_tornBlocks cX3_tornBlocks 3 (some .int), Cond.methodLink RX3 58 yX3_isTorn, Cond.methodLink RX6 213 yX6_isStreaming, Cond.instanceMethod yX6_isStreaming, Cond.selects RX6 yX6_isStreaming yX6_isStreaming, Cond.code yX6_isStreaming cX6_isStreaming 1 (some .boolean), Cond.methodLink RX6 216 yX5_isCounted, Cond.instanceMethod yX5_isCounted, Cond.selects RX5 yX5_isCounted yX5_isCounted, Cond.code yX5_isCounted cX5_isCounted 1 (some .boolean), Cond.methodLink RX6 219 yX5_left]
def wsL_law_r36 : List Cond := [Cond.instanceMethod yX5_left, Cond.selects RX5 yX5_left yX5_left, Cond.code yX5_left cX5_left 1 (some .int), Cond.methodLink RX6 222 yX3_filledBlocks, Cond.instanceMethod yX3_filledBlocks, Cond.selects RX3 yX3_filledBlocks yX3_filledBlocks, Cond.code yX3_filledBlocks cX3_filledBlocks 3 (some .int), Cond.methodLink RX3 65 yX3_contentOf, Cond.methodLink RL 89 yX7_count, Cond.instanceMethod yX7_count, Cond.selects RX7 yX7_count yX7_count, Cond.code yX7_count cX7_count 3 (some .int), Cond.methodLink RX7 263 yX7_countPower, Cond.instanceMethod yX7_countPower, Cond.selects RX7 yX7_countPower yX7_countPower, Cond.code yX7_countPower cX7_countPower 2 (some .int), Cond.methodLink RX7 266 yX7_blocksThat, Cond.instanceMethod yX7_blocksThat, Cond.selects RX7 yX7_blocksThat yX7_blocksThat, Cond.code yX7_blocksThat cX7_blocksThat 4 (some .int)]
def wsL_law : List Cond := (wsL_law_r1 ++ (wsL_law_r2 ++ (wsL_law_r3 ++ (wsL_law_r4 ++ (wsL_law_r5 ++ (wsL_law_r6 ++ (wsL_law_r7 ++ (wsL_law_r8 ++ (wsL_law_r9 ++ (wsL_law_r10 ++ (wsL_law_r11 ++ (wsL_law_r12 ++ (wsL_law_r13 ++ (wsL_law_r14 ++ (wsL_law_r15 ++ (wsL_law_r16 ++ (wsL_law_r17 ++ (wsL_law_r18 ++ (wsL_law_r19 ++ (wsL_law_r20 ++ (wsL_law_r21 ++ (wsL_law_r22 ++ (wsL_law_r23 ++ (wsL_law_r24 ++ (wsL_law_r25 ++ (wsL_law_r26 ++ (wsL_law_r27 ++ (wsL_law_r28 ++ (wsL_law_r29 ++ (wsL_law_r30 ++ (wsL_law_r31 ++ (wsL_law_r32 ++ (wsL_law_r33 ++ (wsL_law_r34 ++ (wsL_law_r35 ++ wsL_law_r36))))))))))))))))))))))))))))))))))) ++ wsX60 ++ wsX70 ++ wsX30 ++ wsX10 ++ wsX40 ++ wsX00 ++ wsX50 ++ wsX20 ++ ([] : List Cond)
theorem wl_of {big : List Cond} (ws : List Cond) (ps : List Nat) (hp : ws = ps.filterMap (fun i => big[i]?)) : ∀ w ∈ ws, w ∈ big := by
  intro w hw
  rw [hp] at hw
  obtain ⟨i, -, hi⟩ := List.mem_filterMap.mp hw
  exact List.mem_of_getElem? hi
set_option maxRecDepth 20000 in
theorem wl_r1 : ∀ w ∈ wsL_law_r1, w ∈ lw_tbl := wl_of _ [75, 76, 66, 774, 775, 74, 77, 78, 79, 80, 81, 82, 83, 84, 67, 249, 110, 111, 68, 250, 251, 126, 127, 70] (by decide +kernel)
set_option maxRecDepth 20000 in
theorem wl_r2 : ∀ w ∈ wsL_law_r2, w ∈ lw_tbl := wl_of _ [252, 145, 146, 71, 253, 170, 171, 72, 254, 192, 193, 73, 255, 86, 87, 88, 108, 89, 109, 90, 91, 112, 113, 114] (by decide +kernel)
set_option maxRecDepth 20000 in
theorem wl_r3 : ∀ w ∈ wsL_law_r3, w ∈ lw_tbl := wl_of _ [115, 116, 117, 69, 118, 119, 129, 130, 131, 132, 133, 148, 149, 150, 173, 174, 175, 195, 196, 197, 208, 210, 0, 211] (by decide +kernel)
set_option maxRecDepth 20000 in
theorem wl_r4 : ∀ w ∈ wsL_law_r4, w ∈ lw_tbl := wl_of _ [256, 257, 258, 259, 212, 213, 214, 215, 216, 217, 218, 219, 93, 94, 92, 220, 221, 222, 223, 224, 120, 225, 227, 1] (by decide +kernel)
set_option maxRecDepth 20000 in
theorem wl_r5 : ∀ w ∈ wsL_law_r5, w ∈ lw_tbl := wl_of _ [228, 261, 262, 263, 264, 265, 229, 230, 231, 232, 198, 199, 200, 233, 234, 235, 236, 134, 135, 237, 238, 239, 240, 154] (by decide +kernel)
set_option maxRecDepth 20000 in
theorem wl_r6 : ∀ w ∈ wsL_law_r6, w ∈ lw_tbl := wl_of _ [155, 156, 241, 242, 243, 244, 151, 152, 153, 245, 246, 247, 248, 176, 177, 178, 179, 180, 776, 777, 778, 779, 798, 806] (by decide +kernel)
set_option maxRecDepth 20000 in
theorem wl_r7 : ∀ w ∈ wsL_law_r7, w ∈ lw_tbl := wl_of _ [807, 809, 811, 821, 822, 823, 780, 781, 782, 783, 784, 785, 789, 790, 791, 800, 801, 802, 803, 804, 805, 808, 810, 792] (by decide +kernel)
set_option maxRecDepth 20000 in
theorem wl_r8 : ∀ w ∈ wsL_law_r8, w ∈ lw_tbl := wl_of _ [812, 786, 787, 788, 793, 795, 39, 796, 813, 814, 815, 816, 817, 818, 819, 820, 825, 826, 827, 828, 829, 832, 833, 834] (by decide +kernel)
set_option maxRecDepth 20000 in
theorem wl_r9 : ∀ w ∈ wsL_law_r9, w ∈ lw_tbl := wl_of _ [301, 302, 303, 304, 308, 305, 306, 307, 912, 309, 310, 311, 312, 313, 315, 2, 316, 317, 319, 3, 320, 321, 322, 323] (by decide +kernel)
set_option maxRecDepth 20000 in
theorem wl_r10 : ∀ w ∈ wsL_law_r10, w ∈ lw_tbl := wl_of _ [324, 325, 327, 4, 328, 329, 330, 331, 332, 333, 334, 335, 336, 337, 338, 339, 340, 341, 343, 5, 344, 345, 347, 6] (by decide +kernel)
set_option maxRecDepth 20000 in
theorem wl_r11 : ∀ w ∈ wsL_law_r11, w ∈ lw_tbl := wl_of _ [348, 349, 350, 351, 352, 353, 354, 355, 356, 357, 358, 359, 360, 913, 914, 915, 916, 917, 919, 40, 920, 824, 921, 923] (by decide +kernel)
set_option maxRecDepth 20000 in
theorem wl_r12 : ∀ w ∈ wsL_law_r12, w ∈ lw_tbl := wl_of _ [41, 924, 925, 927, 42, 928, 929, 931, 43, 932, 361, 362, 363, 364, 260, 933, 934, 935, 936, 937, 799, 365, 366, 367] (by decide +kernel)
set_option maxRecDepth 20000 in
theorem wl_r13 : ∀ w ∈ wsL_law_r13, w ∈ lw_tbl := wl_of _ [368, 369, 370, 371, 372, 938, 939, 940, 941, 942, 943, 797, 373, 374, 375, 376, 944, 945, 946, 947, 377, 378, 379, 380] (by decide +kernel)
set_option maxRecDepth 20000 in
theorem wl_r14 : ∀ w ∈ wsL_law_r14, w ∈ lw_tbl := wl_of _ [381, 382, 383, 384, 385, 386, 387, 388, 389, 390, 948, 949, 950, 951, 952, 953, 954, 955, 956, 391, 392, 393, 394, 395] (by decide +kernel)
set_option maxRecDepth 20000 in
theorem wl_r15 : ∀ w ∈ wsL_law_r15, w ∈ lw_tbl := wl_of _ [396, 397, 957, 958, 959, 960, 398, 399, 400, 401, 402, 404, 7, 405, 406, 408, 8, 409, 410, 412, 9, 413, 414, 415] (by decide +kernel)
set_option maxRecDepth 20000 in
theorem wl_r16 : ∀ w ∈ wsL_law_r16, w ∈ lw_tbl := wl_of _ [416, 417, 418, 419, 420, 421, 422, 423, 424, 425, 427, 10, 428, 429, 431, 11, 432, 433, 435, 12, 436, 437, 439, 13] (by decide +kernel)
set_option maxRecDepth 20000 in
theorem wl_r17 : ∀ w ∈ wsL_law_r17, w ∈ lw_tbl := wl_of _ [440, 441, 443, 14, 444, 445, 447, 15, 448, 449, 451, 16, 452, 453, 454, 455, 456, 458, 17, 459, 460, 461, 462, 463] (by decide +kernel)
set_option maxRecDepth 20000 in
theorem wl_r18 : ∀ w ∈ wsL_law_r18, w ∈ lw_tbl := wl_of _ [464, 465, 466, 467, 468, 469, 470, 471, 472, 474, 18, 475, 476, 477, 478, 479, 480, 481, 482, 483, 487, 484, 485, 69] (by decide +kernel)
set_option maxRecDepth 20000 in
theorem wl_r19 : ∀ w ∈ wsL_law_r19, w ∈ lw_tbl := wl_of _ [486, 488, 490, 19, 491, 492, 493, 494, 495, 496, 498, 20, 499, 500, 501, 502, 503, 504, 506, 21, 507, 508, 509, 510] (by decide +kernel)
set_option maxRecDepth 20000 in
theorem wl_r20 : ∀ w ∈ wsL_law_r20, w ∈ lw_tbl := wl_of _ [511, 512, 514, 22, 515, 516, 517, 518, 519, 520, 522, 23, 523, 524, 525, 526, 527, 528, 530, 24, 531, 532, 533, 534] (by decide +kernel)
set_option maxRecDepth 20000 in
theorem wl_r21 : ∀ w ∈ wsL_law_r21, w ∈ lw_tbl := wl_of _ [535, 536, 538, 25, 539, 540, 541, 542, 543, 544, 545, 546, 547, 548, 549, 550, 551, 552, 553, 554, 555, 556, 558, 26] (by decide +kernel)
set_option maxRecDepth 20000 in
theorem wl_r22 : ∀ w ∈ wsL_law_r22, w ∈ lw_tbl := wl_of _ [559, 560, 561, 562, 563, 564, 565, 566, 567, 568, 570, 27, 571, 572, 574, 28, 575, 576, 578, 29, 579, 580, 581, 582] (by decide +kernel)
set_option maxRecDepth 20000 in
theorem wl_r23 : ∀ w ∈ wsL_law_r23, w ∈ lw_tbl := wl_of _ [583, 584, 585, 586, 587, 588, 590, 30, 591, 592, 593, 594, 595, 596, 597, 598, 600, 31, 601, 602, 604, 32, 605, 606] (by decide +kernel)
set_option maxRecDepth 20000 in
theorem wl_r24 : ∀ w ∈ wsL_law_r24, w ∈ lw_tbl := wl_of _ [608, 33, 609, 610, 611, 612, 613, 961, 962, 963, 964, 965, 966, 967, 969, 44, 970, 971, 972, 973, 974, 975, 976, 978] (by decide +kernel)
set_option maxRecDepth 20000 in
theorem wl_r25 : ∀ w ∈ wsL_law_r25, w ∈ lw_tbl := wl_of _ [45, 979, 980, 982, 46, 983, 984, 986, 47, 987, 988, 990, 48, 991, 992, 994, 49, 995, 996, 998, 50, 999, 1000, 1002] (by decide +kernel)
set_option maxRecDepth 20000 in
theorem wl_r26 : ∀ w ∈ wsL_law_r26, w ∈ lw_tbl := wl_of _ [51, 1003, 1004, 1006, 52, 1007, 1008, 1010, 53, 1011, 1012, 1014, 54, 1015, 830, 831, 1016, 1018, 55, 1019, 1020, 1022, 56, 1023] (by decide +kernel)
set_option maxRecDepth 20000 in
theorem wl_r27 : ∀ w ∈ wsL_law_r27, w ∈ lw_tbl := wl_of _ [1024, 1026, 57, 1027, 1028, 1030, 58, 1031, 1032, 1034, 59, 1035, 1036, 1038, 60, 1039, 614, 615, 616, 617, 1040, 1041, 1042, 1043] (by decide +kernel)
set_option maxRecDepth 20000 in
theorem wl_r28 : ∀ w ∈ wsL_law_r28, w ∈ lw_tbl := wl_of _ [1044, 618, 619, 620, 621, 622, 623, 624, 625, 626, 627, 628, 629, 630, 631, 632, 633, 634, 635, 636, 637, 638, 639, 640] (by decide +kernel)
set_option maxRecDepth 20000 in
theorem wl_r29 : ∀ w ∈ wsL_law_r29, w ∈ lw_tbl := wl_of _ [641, 642, 643, 644, 645, 646, 647, 648, 649, 1045, 1046, 1047, 1048, 1049, 650, 651, 652, 653, 654, 655, 656, 657, 658, 659] (by decide +kernel)
set_option maxRecDepth 20000 in
theorem wl_r30 : ∀ w ∈ wsL_law_r30, w ∈ lw_tbl := wl_of _ [660, 661, 662, 1050, 1051, 1052, 1053, 663, 664, 665, 666, 667, 669, 34, 670, 671, 673, 35, 674, 675, 676, 677, 678, 679] (by decide +kernel)
set_option maxRecDepth 20000 in
theorem wl_r31 : ∀ w ∈ wsL_law_r31, w ∈ lw_tbl := wl_of _ [680, 681, 682, 683, 684, 685, 686, 687, 689, 36, 690, 691, 692, 693, 694, 695, 696, 698, 37, 699, 700, 701, 702, 703] (by decide +kernel)
set_option maxRecDepth 20000 in
theorem wl_r32 : ∀ w ∈ wsL_law_r32, w ∈ lw_tbl := wl_of _ [704, 705, 706, 707, 1054, 1055, 1056, 1057, 1058, 1059, 1061, 61, 1062, 1063, 1065, 62, 1066, 708, 709, 710, 711, 712, 713, 714] (by decide +kernel)
set_option maxRecDepth 20000 in
theorem wl_r33 : ∀ w ∈ wsL_law_r33, w ∈ lw_tbl := wl_of _ [715, 716, 717, 1067, 1068, 1069, 1070, 1071, 718, 719, 720, 721, 1072, 1073, 1074, 1075, 1076, 722, 723, 724, 725, 726, 727, 728] (by decide +kernel)
set_option maxRecDepth 20000 in
theorem wl_r34 : ∀ w ∈ wsL_law_r34, w ∈ lw_tbl := wl_of _ [729, 1077, 1078, 1079, 1080, 730, 731, 732, 733, 734, 1081, 1082, 1083, 1084, 735, 736, 737, 738, 1085, 1086, 1087, 1088, 739, 740] (by decide +kernel)
set_option maxRecDepth 20000 in
theorem wl_r35 : ∀ w ∈ wsL_law_r35, w ∈ lw_tbl := wl_of _ [741, 742, 743, 744, 745, 746, 747, 748, 749, 750, 751, 752, 753, 754, 755, 757, 759, 38, 760, 761, 762, 763, 764, 765] (by decide +kernel)
set_option maxRecDepth 20000 in
theorem wl_r36 : ∀ w ∈ wsL_law_r36, w ∈ lw_tbl := wl_of _ [766, 767, 768, 769, 770, 771, 772, 773, 1089, 1090, 1091, 1092, 1093, 1095, 63, 1096, 1097, 1099, 64, 1100] (by decide +kernel)
set_option maxRecDepth 20000 in
theorem inX6 : ∀ w ∈ wsX60, w ∈ lw_tbl := wl_of _ [266, 268, 270, 272, 274, 276, 278, 280, 282, 284, 286, 288, 290, 292, 294, 296, 298] (by decide +kernel)
set_option maxRecDepth 20000 in
theorem inX7 : ∀ w ∈ wsX70, w ∈ lw_tbl := wl_of _ [835, 837, 839, 841, 843, 845, 847, 849, 851, 853, 855, 857, 859, 861, 863, 865, 867, 869, 871, 873, 875, 877, 879, 881, 883, 885, 887, 889, 891, 893, 895, 897, 899, 901, 903, 905, 907, 909] (by decide +kernel)
set_option maxRecDepth 20000 in
theorem inX3 : ∀ w ∈ wsX30, w ∈ lw_tbl := wl_of _ [95, 97, 99, 101, 103, 105] (by decide +kernel)
set_option maxRecDepth 20000 in
theorem inX1 : ∀ w ∈ wsX10, w ∈ lw_tbl := wl_of _ [121, 123] (by decide +kernel)
set_option maxRecDepth 20000 in
theorem inX4 : ∀ w ∈ wsX40, w ∈ lw_tbl := wl_of _ [136, 138, 140, 142] (by decide +kernel)
set_option maxRecDepth 20000 in
theorem inX0 : ∀ w ∈ wsX00, w ∈ lw_tbl := wl_of _ [157, 159, 161, 163, 165, 167] (by decide +kernel)
set_option maxRecDepth 20000 in
theorem inX5 : ∀ w ∈ wsX50, w ∈ lw_tbl := wl_of _ [181, 183, 185, 187, 189] (by decide +kernel)
set_option maxRecDepth 20000 in
theorem inX2 : ∀ w ∈ wsX20, w ∈ lw_tbl := wl_of _ [201, 203, 205] (by decide +kernel)
theorem wsL_law_in : ∀ w ∈ wsL_law, w ∈ lw_tbl := (List.forall_mem_append.mpr ⟨(List.forall_mem_append.mpr ⟨(List.forall_mem_append.mpr ⟨(List.forall_mem_append.mpr ⟨(List.forall_mem_append.mpr ⟨(List.forall_mem_append.mpr ⟨(List.forall_mem_append.mpr ⟨(List.forall_mem_append.mpr ⟨(List.forall_mem_append.mpr ⟨(List.forall_mem_append.mpr ⟨wl_r1, (List.forall_mem_append.mpr ⟨wl_r2, (List.forall_mem_append.mpr ⟨wl_r3, (List.forall_mem_append.mpr ⟨wl_r4, (List.forall_mem_append.mpr ⟨wl_r5, (List.forall_mem_append.mpr ⟨wl_r6, (List.forall_mem_append.mpr ⟨wl_r7, (List.forall_mem_append.mpr ⟨wl_r8, (List.forall_mem_append.mpr ⟨wl_r9, (List.forall_mem_append.mpr ⟨wl_r10, (List.forall_mem_append.mpr ⟨wl_r11, (List.forall_mem_append.mpr ⟨wl_r12, (List.forall_mem_append.mpr ⟨wl_r13, (List.forall_mem_append.mpr ⟨wl_r14, (List.forall_mem_append.mpr ⟨wl_r15, (List.forall_mem_append.mpr ⟨wl_r16, (List.forall_mem_append.mpr ⟨wl_r17, (List.forall_mem_append.mpr ⟨wl_r18, (List.forall_mem_append.mpr ⟨wl_r19, (List.forall_mem_append.mpr ⟨wl_r20, (List.forall_mem_append.mpr ⟨wl_r21, (List.forall_mem_append.mpr ⟨wl_r22, (List.forall_mem_append.mpr ⟨wl_r23, (List.forall_mem_append.mpr ⟨wl_r24, (List.forall_mem_append.mpr ⟨wl_r25, (List.forall_mem_append.mpr ⟨wl_r26, (List.forall_mem_append.mpr ⟨wl_r27, (List.forall_mem_append.mpr ⟨wl_r28, (List.forall_mem_append.mpr ⟨wl_r29, (List.forall_mem_append.mpr ⟨wl_r30, (List.forall_mem_append.mpr ⟨wl_r31, (List.forall_mem_append.mpr ⟨wl_r32, (List.forall_mem_append.mpr ⟨wl_r33, (List.forall_mem_append.mpr ⟨wl_r34, (List.forall_mem_append.mpr ⟨wl_r35, wl_r36⟩)⟩)⟩)⟩)⟩)⟩)⟩)⟩)⟩)⟩)⟩)⟩)⟩)⟩)⟩)⟩)⟩)⟩)⟩)⟩)⟩)⟩)⟩)⟩)⟩)⟩)⟩)⟩)⟩)⟩)⟩)⟩)⟩)⟩)⟩), inX6⟩), inX7⟩), inX3⟩), inX1⟩), inX4⟩), inX0⟩), inX5⟩), inX2⟩), fun _ h => absurd h List.not_mem_nil⟩)
theorem inlX0 : ∀ w ∈ wsX00, w ∈ wsL_law := fun _ h => List.mem_append_left _ (List.mem_append_left _ (List.mem_append_left _ (List.mem_append_right _ h)))
theorem inlX1 : ∀ w ∈ wsX10, w ∈ wsL_law := fun _ h => List.mem_append_left _ (List.mem_append_left _ (List.mem_append_left _ (List.mem_append_left _ (List.mem_append_left _ (List.mem_append_right _ h)))))
theorem inlX2 : ∀ w ∈ wsX20, w ∈ wsL_law := fun _ h => List.mem_append_left _ (List.mem_append_right _ h)
theorem inlX3 : ∀ w ∈ wsX30, w ∈ wsL_law := fun _ h => List.mem_append_left _ (List.mem_append_left _ (List.mem_append_left _ (List.mem_append_left _ (List.mem_append_left _ (List.mem_append_left _ (List.mem_append_right _ h))))))
theorem inlX4 : ∀ w ∈ wsX40, w ∈ wsL_law := fun _ h => List.mem_append_left _ (List.mem_append_left _ (List.mem_append_left _ (List.mem_append_left _ (List.mem_append_right _ h))))
theorem inlX5 : ∀ w ∈ wsX50, w ∈ wsL_law := fun _ h => List.mem_append_left _ (List.mem_append_left _ (List.mem_append_right _ h))
theorem inlX6 : ∀ w ∈ wsX60, w ∈ wsL_law := fun _ h => List.mem_append_left _ (List.mem_append_left _ (List.mem_append_left _ (List.mem_append_left _ (List.mem_append_left _ (List.mem_append_left _ (List.mem_append_left _ (List.mem_append_left _ (List.mem_append_right _ h))))))))
theorem inlX7 : ∀ w ∈ wsX70, w ∈ wsL_law := fun _ h => List.mem_append_left _ (List.mem_append_left _ (List.mem_append_left _ (List.mem_append_left _ (List.mem_append_left _ (List.mem_append_left _ (List.mem_append_left _ (List.mem_append_right _ h)))))))
theorem inJ9 : ∀ w ∈ wsJ90, w ∈ lw_tbl := by decide +kernel
abbrev vwCl : List vw_C := [(RX0, TX0, 6), (RX1, TX1, 2), (RX2, TX2, 3), (RX3, TX3, 6), (RX4, TX4, 4), (RX5, TX5, 5), (RX6, TX6, 17), (RX7, TX7, 38)]
end
section
theorem dX0_init_0 : decode cX0_init 0 = .ok (.aload_n 0, 1) := by decide +kernel
theorem dX0_init_1 : decode cX0_init 1 = .ok (.invokespecial 3, 3) := by decide +kernel
theorem dX0_init_4 : decode cX0_init 4 = .ok (.return_, 1) := by decide +kernel
set_option maxRecDepth 20000 in
theorem ggX0_clear_X0_forget : GoodIn wsX0_clear wsX0_forget := goodIn_r _ [8, 9, 10, 11, 12, 13, 14, 15, 16, 17] (by decide +kernel) (by decide +kernel)
set_option maxRecDepth 20000 in
theorem gX0_clear_X0_forget : GoodIn wsX0_clear (wsV RX0 9 RX0 yX0_forget wsX0_forget) := goodIn_app (goodIn_of _ (by decide +kernel)) ggX0_clear_X0_forget
theorem dX0_clear_0 : decode cX0_clear 0 = .ok (.aload_n 0, 1) := by decide +kernel
theorem dX0_clear_1 : decode cX0_clear 1 = .ok (.invokevirtual 9, 3) := by decide +kernel
theorem dX0_clear_4 : decode cX0_clear 4 = .ok (.aload_n 0, 1) := by decide +kernel
theorem dX0_clear_5 : decode cX0_clear 5 = .ok (.iconst 0, 1) := by decide +kernel
theorem dX0_clear_6 : decode cX0_clear 6 = .ok (.putfield 14, 3) := by decide +kernel
theorem dX0_clear_9 : decode cX0_clear 9 = .ok (.aload_n 0, 1) := by decide +kernel
theorem dX0_clear_10 : decode cX0_clear 10 = .ok (.iconst 0, 1) := by decide +kernel
theorem dX0_clear_11 : decode cX0_clear 11 = .ok (.putfield 18, 3) := by decide +kernel
theorem dX0_clear_14 : decode cX0_clear 14 = .ok (.aload_n 0, 1) := by decide +kernel
theorem dX0_clear_15 : decode cX0_clear 15 = .ok (.iconst 0, 1) := by decide +kernel
theorem dX0_clear_16 : decode cX0_clear 16 = .ok (.putfield 21, 3) := by decide +kernel
theorem dX0_clear_19 : decode cX0_clear 19 = .ok (.return_, 1) := by decide +kernel
theorem dX0_forget_0 : decode cX0_forget 0 = .ok (.aload_n 0, 1) := by decide +kernel
theorem dX0_forget_1 : decode cX0_forget 1 = .ok (.iconst 0, 1) := by decide +kernel
theorem dX0_forget_2 : decode cX0_forget 2 = .ok (.putfield 24, 3) := by decide +kernel
theorem dX0_forget_5 : decode cX0_forget 5 = .ok (.aload_n 0, 1) := by decide +kernel
theorem dX0_forget_6 : decode cX0_forget 6 = .ok (.iconst 0, 1) := by decide +kernel
theorem dX0_forget_7 : decode cX0_forget 7 = .ok (.putfield 27, 3) := by decide +kernel
theorem dX0_forget_10 : decode cX0_forget 10 = .ok (.aload_n 0, 1) := by decide +kernel
theorem dX0_forget_11 : decode cX0_forget 11 = .ok (.iconst 0, 1) := by decide +kernel
theorem dX0_forget_12 : decode cX0_forget 12 = .ok (.putfield 30, 3) := by decide +kernel
theorem dX0_forget_15 : decode cX0_forget 15 = .ok (.return_, 1) := by decide +kernel
theorem dX0_isBrokenOffBy_0 : decode cX0_isBrokenOffBy 0 = .ok (.aload_n 0, 1) := by decide +kernel
theorem dX0_isBrokenOffBy_1 : decode cX0_isBrokenOffBy 1 = .ok (.getfield 24, 3) := by decide +kernel
theorem dX0_isBrokenOffBy_4 : decode cX0_isBrokenOffBy 4 = .ok (.ifCond .eq 9, 3) := by decide +kernel
theorem dX0_isBrokenOffBy_7 : decode cX0_isBrokenOffBy 7 = .ok (.iload_n 1, 1) := by decide +kernel
theorem dX0_isBrokenOffBy_8 : decode cX0_isBrokenOffBy 8 = .ok (.bipush 13, 2) := by decide +kernel
theorem dX0_isBrokenOffBy_10 : decode cX0_isBrokenOffBy 10 = .ok (.if_icmp .ne 5, 3) := by decide +kernel
theorem dX0_isBrokenOffBy_13 : decode cX0_isBrokenOffBy 13 = .ok (.iconst 0, 1) := by decide +kernel
theorem dX0_isBrokenOffBy_14 : decode cX0_isBrokenOffBy 14 = .ok (.ireturn, 1) := by decide +kernel
theorem dX0_isBrokenOffBy_15 : decode cX0_isBrokenOffBy 15 = .ok (.aload_n 0, 1) := by decide +kernel
theorem dX0_isBrokenOffBy_16 : decode cX0_isBrokenOffBy 16 = .ok (.getfield 24, 3) := by decide +kernel
theorem dX0_isBrokenOffBy_19 : decode cX0_isBrokenOffBy 19 = .ok (.iconst 1, 1) := by decide +kernel
theorem dX0_isBrokenOffBy_20 : decode cX0_isBrokenOffBy 20 = .ok (.if_icmp .ne 17, 3) := by decide +kernel
theorem dX0_isBrokenOffBy_23 : decode cX0_isBrokenOffBy 23 = .ok (.iload_n 1, 1) := by decide +kernel
theorem dX0_isBrokenOffBy_24 : decode cX0_isBrokenOffBy 24 = .ok (.bipush 33, 2) := by decide +kernel
theorem dX0_isBrokenOffBy_26 : decode cX0_isBrokenOffBy 26 = .ok (.if_icmp .ne 7, 3) := by decide +kernel
theorem dX0_isBrokenOffBy_29 : decode cX0_isBrokenOffBy 29 = .ok (.iconst 1, 1) := by decide +kernel
theorem dX0_isBrokenOffBy_30 : decode cX0_isBrokenOffBy 30 = .ok (.goto 18, 3) := by decide +kernel
theorem dX0_isBrokenOffBy_33 : decode cX0_isBrokenOffBy 33 = .ok (.iconst 0, 1) := by decide +kernel
theorem dX0_isBrokenOffBy_34 : decode cX0_isBrokenOffBy 34 = .ok (.goto 14, 3) := by decide +kernel
theorem dX0_isBrokenOffBy_37 : decode cX0_isBrokenOffBy 37 = .ok (.iload_n 1, 1) := by decide +kernel
theorem dX0_isBrokenOffBy_38 : decode cX0_isBrokenOffBy 38 = .ok (.bipush 38, 2) := by decide +kernel
theorem dX0_isBrokenOffBy_40 : decode cX0_isBrokenOffBy 40 = .ok (.if_icmp .ne 7, 3) := by decide +kernel
theorem dX0_isBrokenOffBy_43 : decode cX0_isBrokenOffBy 43 = .ok (.iconst 1, 1) := by decide +kernel
theorem dX0_isBrokenOffBy_44 : decode cX0_isBrokenOffBy 44 = .ok (.goto 4, 3) := by decide +kernel
theorem dX0_isBrokenOffBy_47 : decode cX0_isBrokenOffBy 47 = .ok (.iconst 0, 1) := by decide +kernel
theorem dX0_isBrokenOffBy_48 : decode cX0_isBrokenOffBy 48 = .ok (.istore_n 2, 1) := by decide +kernel
theorem dX0_isBrokenOffBy_49 : decode cX0_isBrokenOffBy 49 = .ok (.iload_n 2, 1) := by decide +kernel
theorem dX0_isBrokenOffBy_50 : decode cX0_isBrokenOffBy 50 = .ok (.ifCond .ne 7, 3) := by decide +kernel
theorem dX0_isBrokenOffBy_53 : decode cX0_isBrokenOffBy 53 = .ok (.iconst 1, 1) := by decide +kernel
theorem dX0_isBrokenOffBy_54 : decode cX0_isBrokenOffBy 54 = .ok (.goto 4, 3) := by decide +kernel
theorem dX0_isBrokenOffBy_57 : decode cX0_isBrokenOffBy 57 = .ok (.iconst 0, 1) := by decide +kernel
theorem dX0_isBrokenOffBy_58 : decode cX0_isBrokenOffBy 58 = .ok (.ireturn, 1) := by decide +kernel
theorem dX0_beginFrom_0 : decode cX0_beginFrom 0 = .ok (.aload_n 0, 1) := by decide +kernel
theorem dX0_beginFrom_1 : decode cX0_beginFrom 1 = .ok (.iconst 1, 1) := by decide +kernel
theorem dX0_beginFrom_2 : decode cX0_beginFrom 2 = .ok (.putfield 24, 3) := by decide +kernel
theorem dX0_beginFrom_5 : decode cX0_beginFrom 5 = .ok (.aload_n 0, 1) := by decide +kernel
theorem dX0_beginFrom_6 : decode cX0_beginFrom 6 = .ok (.iload_n 1, 1) := by decide +kernel
theorem dX0_beginFrom_7 : decode cX0_beginFrom 7 = .ok (.putfield 27, 3) := by decide +kernel
theorem dX0_beginFrom_10 : decode cX0_beginFrom 10 = .ok (.return_, 1) := by decide +kernel
theorem dX0_continueTo_0 : decode cX0_continueTo 0 = .ok (.aload_n 0, 1) := by decide +kernel
theorem dX0_continueTo_1 : decode cX0_continueTo 1 = .ok (.getfield 24, 3) := by decide +kernel
theorem dX0_continueTo_4 : decode cX0_continueTo 4 = .ok (.iconst 1, 1) := by decide +kernel
theorem dX0_continueTo_5 : decode cX0_continueTo 5 = .ok (.if_icmp .ne 11, 3) := by decide +kernel
theorem dX0_continueTo_8 : decode cX0_continueTo 8 = .ok (.iload_n 1, 1) := by decide +kernel
theorem dX0_continueTo_9 : decode cX0_continueTo 9 = .ok (.aload_n 0, 1) := by decide +kernel
theorem dX0_continueTo_10 : decode cX0_continueTo 10 = .ok (.getfield 27, 3) := by decide +kernel
theorem dX0_continueTo_13 : decode cX0_continueTo 13 = .ok (.if_icmp .ge 5, 3) := by decide +kernel
theorem dX0_continueTo_16 : decode cX0_continueTo 16 = .ok (.iconst 0, 1) := by decide +kernel
theorem dX0_continueTo_17 : decode cX0_continueTo 17 = .ok (.ireturn, 1) := by decide +kernel
theorem dX0_continueTo_18 : decode cX0_continueTo 18 = .ok (.aload_n 0, 1) := by decide +kernel
theorem dX0_continueTo_19 : decode cX0_continueTo 19 = .ok (.iconst 2, 1) := by decide +kernel
theorem dX0_continueTo_20 : decode cX0_continueTo 20 = .ok (.putfield 24, 3) := by decide +kernel
theorem dX0_continueTo_23 : decode cX0_continueTo 23 = .ok (.aload_n 0, 1) := by decide +kernel
theorem dX0_continueTo_24 : decode cX0_continueTo 24 = .ok (.iload_n 1, 1) := by decide +kernel
theorem dX0_continueTo_25 : decode cX0_continueTo 25 = .ok (.putfield 30, 3) := by decide +kernel
theorem dX0_continueTo_28 : decode cX0_continueTo 28 = .ok (.iconst 1, 1) := by decide +kernel
theorem dX0_continueTo_29 : decode cX0_continueTo 29 = .ok (.ireturn, 1) := by decide +kernel
theorem dX0_isReady_0 : decode cX0_isReady 0 = .ok (.aload_n 0, 1) := by decide +kernel
theorem dX0_isReady_1 : decode cX0_isReady 1 = .ok (.getfield 24, 3) := by decide +kernel
theorem dX0_isReady_4 : decode cX0_isReady 4 = .ok (.iconst 2, 1) := by decide +kernel
theorem dX0_isReady_5 : decode cX0_isReady 5 = .ok (.if_icmp .ne 7, 3) := by decide +kernel
theorem dX0_isReady_8 : decode cX0_isReady 8 = .ok (.iconst 1, 1) := by decide +kernel
theorem dX0_isReady_9 : decode cX0_isReady 9 = .ok (.goto 4, 3) := by decide +kernel
theorem dX0_isReady_12 : decode cX0_isReady 12 = .ok (.iconst 0, 1) := by decide +kernel
theorem dX0_isReady_13 : decode cX0_isReady 13 = .ok (.ireturn, 1) := by decide +kernel
theorem dX0_from_0 : decode cX0_from 0 = .ok (.aload_n 0, 1) := by decide +kernel
theorem dX0_from_1 : decode cX0_from 1 = .ok (.getfield 27, 3) := by decide +kernel
theorem dX0_from_4 : decode cX0_from 4 = .ok (.ireturn, 1) := by decide +kernel
theorem dX0_to_0 : decode cX0_to 0 = .ok (.aload_n 0, 1) := by decide +kernel
theorem dX0_to_1 : decode cX0_to 1 = .ok (.getfield 30, 3) := by decide +kernel
theorem dX0_to_4 : decode cX0_to 4 = .ok (.ireturn, 1) := by decide +kernel
set_option maxRecDepth 20000 in
theorem ggX0_begin_X0_forget : GoodIn wsX0_begin wsX0_forget := goodIn_r _ [8, 9, 10, 11, 12, 13, 14, 15, 16, 17] (by decide +kernel) (by decide +kernel)
set_option maxRecDepth 20000 in
theorem gX0_begin_X0_forget : GoodIn wsX0_begin (wsV RX0 9 RX0 yX0_forget wsX0_forget) := goodIn_app (goodIn_of _ (by decide +kernel)) ggX0_begin_X0_forget
theorem dX0_begin_0 : decode cX0_begin 0 = .ok (.aload_n 0, 1) := by decide +kernel
theorem dX0_begin_1 : decode cX0_begin 1 = .ok (.invokevirtual 9, 3) := by decide +kernel
theorem dX0_begin_4 : decode cX0_begin 4 = .ok (.aload_n 0, 1) := by decide +kernel
theorem dX0_begin_5 : decode cX0_begin 5 = .ok (.iload_n 1, 1) := by decide +kernel
theorem dX0_begin_6 : decode cX0_begin 6 = .ok (.putfield 14, 3) := by decide +kernel
theorem dX0_begin_9 : decode cX0_begin 9 = .ok (.aload_n 0, 1) := by decide +kernel
theorem dX0_begin_10 : decode cX0_begin 10 = .ok (.iload_n 2, 1) := by decide +kernel
theorem dX0_begin_11 : decode cX0_begin 11 = .ok (.iload_n 1, 1) := by decide +kernel
theorem dX0_begin_12 : decode cX0_begin 12 = .ok (.isub, 1) := by decide +kernel
theorem dX0_begin_13 : decode cX0_begin 13 = .ok (.iconst 1, 1) := by decide +kernel
theorem dX0_begin_14 : decode cX0_begin 14 = .ok (.iadd, 1) := by decide +kernel
theorem dX0_begin_15 : decode cX0_begin 15 = .ok (.putfield 18, 3) := by decide +kernel
theorem dX0_begin_18 : decode cX0_begin 18 = .ok (.aload_n 0, 1) := by decide +kernel
theorem dX0_begin_19 : decode cX0_begin 19 = .ok (.iconst 0, 1) := by decide +kernel
theorem dX0_begin_20 : decode cX0_begin 20 = .ok (.putfield 21, 3) := by decide +kernel
theorem dX0_begin_23 : decode cX0_begin 23 = .ok (.return_, 1) := by decide +kernel
theorem dX0_groupsLeft_0 : decode cX0_groupsLeft 0 = .ok (.aload_n 0, 1) := by decide +kernel
theorem dX0_groupsLeft_1 : decode cX0_groupsLeft 1 = .ok (.getfield 18, 3) := by decide +kernel
theorem dX0_groupsLeft_4 : decode cX0_groupsLeft 4 = .ok (.ireturn, 1) := by decide +kernel
theorem dX0_group_0 : decode cX0_group 0 = .ok (.aload_n 0, 1) := by decide +kernel
theorem dX0_group_1 : decode cX0_group 1 = .ok (.getfield 14, 3) := by decide +kernel
theorem dX0_group_4 : decode cX0_group 4 = .ok (.ireturn, 1) := by decide +kernel
theorem dX0_groupHasBegun_0 : decode cX0_groupHasBegun 0 = .ok (.aload_n 0, 1) := by decide +kernel
theorem dX0_groupHasBegun_1 : decode cX0_groupHasBegun 1 = .ok (.getfield 18, 3) := by decide +kernel
theorem dX0_groupHasBegun_4 : decode cX0_groupHasBegun 4 = .ok (.ifCond .le 14, 3) := by decide +kernel
theorem dX0_groupHasBegun_7 : decode cX0_groupHasBegun 7 = .ok (.aload_n 0, 1) := by decide +kernel
theorem dX0_groupHasBegun_8 : decode cX0_groupHasBegun 8 = .ok (.getfield 21, 3) := by decide +kernel
theorem dX0_groupHasBegun_11 : decode cX0_groupHasBegun 11 = .ok (.ifCond .le 7, 3) := by decide +kernel
theorem dX0_groupHasBegun_14 : decode cX0_groupHasBegun 14 = .ok (.iconst 1, 1) := by decide +kernel
theorem dX0_groupHasBegun_15 : decode cX0_groupHasBegun 15 = .ok (.goto 4, 3) := by decide +kernel
theorem dX0_groupHasBegun_18 : decode cX0_groupHasBegun 18 = .ok (.iconst 0, 1) := by decide +kernel
theorem dX0_groupHasBegun_19 : decode cX0_groupHasBegun 19 = .ok (.ireturn, 1) := by decide +kernel
theorem dX0_tickGroup_0 : decode cX0_tickGroup 0 = .ok (.aload_n 0, 1) := by decide +kernel
theorem dX0_tickGroup_1 : decode cX0_tickGroup 1 = .ok (.dup, 1) := by decide +kernel
theorem dX0_tickGroup_2 : decode cX0_tickGroup 2 = .ok (.getfield 21, 3) := by decide +kernel
theorem dX0_tickGroup_5 : decode cX0_tickGroup 5 = .ok (.iconst 1, 1) := by decide +kernel
theorem dX0_tickGroup_6 : decode cX0_tickGroup 6 = .ok (.iadd, 1) := by decide +kernel
theorem dX0_tickGroup_7 : decode cX0_tickGroup 7 = .ok (.putfield 21, 3) := by decide +kernel
theorem dX0_tickGroup_10 : decode cX0_tickGroup 10 = .ok (.aload_n 0, 1) := by decide +kernel
theorem dX0_tickGroup_11 : decode cX0_tickGroup 11 = .ok (.getfield 21, 3) := by decide +kernel
theorem dX0_tickGroup_14 : decode cX0_tickGroup 14 = .ok (.iconst 2, 1) := by decide +kernel
theorem dX0_tickGroup_15 : decode cX0_tickGroup 15 = .ok (.if_icmp .ge 5, 3) := by decide +kernel
theorem dX0_tickGroup_18 : decode cX0_tickGroup 18 = .ok (.iconst 0, 1) := by decide +kernel
theorem dX0_tickGroup_19 : decode cX0_tickGroup 19 = .ok (.ireturn, 1) := by decide +kernel
theorem dX0_tickGroup_20 : decode cX0_tickGroup 20 = .ok (.aload_n 0, 1) := by decide +kernel
theorem dX0_tickGroup_21 : decode cX0_tickGroup 21 = .ok (.dup, 1) := by decide +kernel
theorem dX0_tickGroup_22 : decode cX0_tickGroup 22 = .ok (.getfield 14, 3) := by decide +kernel
theorem dX0_tickGroup_25 : decode cX0_tickGroup 25 = .ok (.iconst 1, 1) := by decide +kernel
theorem dX0_tickGroup_26 : decode cX0_tickGroup 26 = .ok (.iadd, 1) := by decide +kernel
theorem dX0_tickGroup_27 : decode cX0_tickGroup 27 = .ok (.putfield 14, 3) := by decide +kernel
theorem dX0_tickGroup_30 : decode cX0_tickGroup 30 = .ok (.aload_n 0, 1) := by decide +kernel
theorem dX0_tickGroup_31 : decode cX0_tickGroup 31 = .ok (.dup, 1) := by decide +kernel
theorem dX0_tickGroup_32 : decode cX0_tickGroup 32 = .ok (.getfield 18, 3) := by decide +kernel
theorem dX0_tickGroup_35 : decode cX0_tickGroup 35 = .ok (.iconst 1, 1) := by decide +kernel
theorem dX0_tickGroup_36 : decode cX0_tickGroup 36 = .ok (.isub, 1) := by decide +kernel
theorem dX0_tickGroup_37 : decode cX0_tickGroup 37 = .ok (.putfield 18, 3) := by decide +kernel
theorem dX0_tickGroup_40 : decode cX0_tickGroup 40 = .ok (.aload_n 0, 1) := by decide +kernel
theorem dX0_tickGroup_41 : decode cX0_tickGroup 41 = .ok (.iconst 0, 1) := by decide +kernel
theorem dX0_tickGroup_42 : decode cX0_tickGroup 42 = .ok (.putfield 21, 3) := by decide +kernel
theorem dX0_tickGroup_45 : decode cX0_tickGroup 45 = .ok (.iconst 1, 1) := by decide +kernel
theorem dX0_tickGroup_46 : decode cX0_tickGroup 46 = .ok (.ireturn, 1) := by decide +kernel
theorem dX1_init_0 : decode cX1_init 0 = .ok (.aload_n 0, 1) := by decide +kernel
theorem dX1_init_1 : decode cX1_init 1 = .ok (.invokespecial 3, 3) := by decide +kernel
theorem dX1_init_4 : decode cX1_init 4 = .ok (.aload_n 0, 1) := by decide +kernel
theorem dX1_init_5 : decode cX1_init 5 = .ok (.iconst 0, 1) := by decide +kernel
theorem dX1_init_6 : decode cX1_init 6 = .ok (.iload_n 1, 1) := by decide +kernel
theorem dX1_init_7 : decode cX1_init 7 = .ok (.invokestatic 9, 3) := by decide +kernel
theorem dX1_init_10 : decode cX1_init 10 = .ok (.newarray .int, 2) := by decide +kernel
theorem dX1_init_12 : decode cX1_init 12 = .ok (.putfield 15, 3) := by decide +kernel
theorem dX1_init_15 : decode cX1_init 15 = .ok (.return_, 1) := by decide +kernel
theorem dX1_length_0 : decode cX1_length 0 = .ok (.aload_n 0, 1) := by decide +kernel
theorem dX1_length_1 : decode cX1_length 1 = .ok (.getfield 21, 3) := by decide +kernel
theorem dX1_length_4 : decode cX1_length 4 = .ok (.ireturn, 1) := by decide +kernel
theorem dX1_empty_0 : decode cX1_empty 0 = .ok (.aload_n 0, 1) := by decide +kernel
theorem dX1_empty_1 : decode cX1_empty 1 = .ok (.iconst 0, 1) := by decide +kernel
theorem dX1_empty_2 : decode cX1_empty 2 = .ok (.putfield 21, 3) := by decide +kernel
theorem dX1_empty_5 : decode cX1_empty 5 = .ok (.return_, 1) := by decide +kernel
theorem dX1_append_0 : decode cX1_append 0 = .ok (.aload_n 0, 1) := by decide +kernel
theorem dX1_append_1 : decode cX1_append 1 = .ok (.getfield 21, 3) := by decide +kernel
theorem dX1_append_4 : decode cX1_append 4 = .ok (.ifCond .lt 15, 3) := by decide +kernel
theorem dX1_append_7 : decode cX1_append 7 = .ok (.aload_n 0, 1) := by decide +kernel
theorem dX1_append_8 : decode cX1_append 8 = .ok (.getfield 21, 3) := by decide +kernel
theorem dX1_append_11 : decode cX1_append 11 = .ok (.aload_n 0, 1) := by decide +kernel
theorem dX1_append_12 : decode cX1_append 12 = .ok (.getfield 15, 3) := by decide +kernel
theorem dX1_append_15 : decode cX1_append 15 = .ok (.arraylength, 1) := by decide +kernel
theorem dX1_append_16 : decode cX1_append 16 = .ok (.if_icmp .lt 5, 3) := by decide +kernel
theorem dX1_append_19 : decode cX1_append 19 = .ok (.iconst 0, 1) := by decide +kernel
theorem dX1_append_20 : decode cX1_append 20 = .ok (.ireturn, 1) := by decide +kernel
theorem dX1_append_21 : decode cX1_append 21 = .ok (.aload_n 0, 1) := by decide +kernel
theorem dX1_append_22 : decode cX1_append 22 = .ok (.getfield 15, 3) := by decide +kernel
theorem dX1_append_25 : decode cX1_append 25 = .ok (.aload_n 0, 1) := by decide +kernel
theorem dX1_append_26 : decode cX1_append 26 = .ok (.getfield 21, 3) := by decide +kernel
theorem dX1_append_29 : decode cX1_append 29 = .ok (.iload_n 1, 1) := by decide +kernel
theorem dX1_append_30 : decode cX1_append 30 = .ok (.iastore, 1) := by decide +kernel
theorem dX1_append_31 : decode cX1_append 31 = .ok (.aload_n 0, 1) := by decide +kernel
theorem dX1_append_32 : decode cX1_append 32 = .ok (.dup, 1) := by decide +kernel
theorem dX1_append_33 : decode cX1_append 33 = .ok (.getfield 21, 3) := by decide +kernel
theorem dX1_append_36 : decode cX1_append 36 = .ok (.iconst 1, 1) := by decide +kernel
theorem dX1_append_37 : decode cX1_append 37 = .ok (.iadd, 1) := by decide +kernel
theorem dX1_append_38 : decode cX1_append 38 = .ok (.putfield 21, 3) := by decide +kernel
theorem dX1_append_41 : decode cX1_append 41 = .ok (.iconst 1, 1) := by decide +kernel
theorem dX1_append_42 : decode cX1_append 42 = .ok (.ireturn, 1) := by decide +kernel
theorem dX1_at_0 : decode cX1_at 0 = .ok (.iload_n 1, 1) := by decide +kernel
theorem dX1_at_1 : decode cX1_at 1 = .ok (.ifCond .lt 29, 3) := by decide +kernel
theorem dX1_at_4 : decode cX1_at 4 = .ok (.iload_n 1, 1) := by decide +kernel
theorem dX1_at_5 : decode cX1_at 5 = .ok (.aload_n 0, 1) := by decide +kernel
theorem dX1_at_6 : decode cX1_at 6 = .ok (.getfield 21, 3) := by decide +kernel
theorem dX1_at_9 : decode cX1_at 9 = .ok (.if_icmp .ge 21, 3) := by decide +kernel
theorem dX1_at_12 : decode cX1_at 12 = .ok (.iload_n 1, 1) := by decide +kernel
theorem dX1_at_13 : decode cX1_at 13 = .ok (.aload_n 0, 1) := by decide +kernel
theorem dX1_at_14 : decode cX1_at 14 = .ok (.getfield 15, 3) := by decide +kernel
theorem dX1_at_17 : decode cX1_at 17 = .ok (.arraylength, 1) := by decide +kernel
theorem dX1_at_18 : decode cX1_at 18 = .ok (.if_icmp .ge 12, 3) := by decide +kernel
theorem dX1_at_21 : decode cX1_at 21 = .ok (.aload_n 0, 1) := by decide +kernel
theorem dX1_at_22 : decode cX1_at 22 = .ok (.getfield 15, 3) := by decide +kernel
theorem dX1_at_25 : decode cX1_at 25 = .ok (.iload_n 1, 1) := by decide +kernel
theorem dX1_at_26 : decode cX1_at 26 = .ok (.iaload, 1) := by decide +kernel
theorem dX1_at_27 : decode cX1_at 27 = .ok (.goto 5, 3) := by decide +kernel
theorem dX1_at_30 : decode cX1_at 30 = .ok (.bipush (-4), 2) := by decide +kernel
theorem dX1_at_32 : decode cX1_at 32 = .ok (.ireturn, 1) := by decide +kernel
set_option maxRecDepth 20000 in
theorem ggX1_startsWith_X1_at : GoodIn wsX1_startsWith wsX1_at := goodIn_r _ [6, 1, 7, 8, 9] (by decide +kernel) (by decide +kernel)
set_option maxRecDepth 20000 in
theorem gX1_startsWith_X1_at : GoodIn wsX1_startsWith (wsV RX1 25 RX1 yX1_at wsX1_at) := goodIn_app (goodIn_of _ (by decide +kernel)) ggX1_startsWith_X1_at
theorem dX1_startsWith_0 : decode cX1_startsWith 0 = .ok (.aload_n 1, 1) := by decide +kernel
theorem dX1_startsWith_1 : decode cX1_startsWith 1 = .ok (.getfield 21, 3) := by decide +kernel
theorem dX1_startsWith_4 : decode cX1_startsWith 4 = .ok (.aload_n 0, 1) := by decide +kernel
theorem dX1_startsWith_5 : decode cX1_startsWith 5 = .ok (.getfield 21, 3) := by decide +kernel
theorem dX1_startsWith_8 : decode cX1_startsWith 8 = .ok (.if_icmp .le 5, 3) := by decide +kernel
theorem dX1_startsWith_11 : decode cX1_startsWith 11 = .ok (.iconst 0, 1) := by decide +kernel
theorem dX1_startsWith_12 : decode cX1_startsWith 12 = .ok (.ireturn, 1) := by decide +kernel
theorem dX1_startsWith_13 : decode cX1_startsWith 13 = .ok (.iconst 0, 1) := by decide +kernel
theorem dX1_startsWith_14 : decode cX1_startsWith 14 = .ok (.istore_n 2, 1) := by decide +kernel
theorem dX1_startsWith_15 : decode cX1_startsWith 15 = .ok (.iload_n 2, 1) := by decide +kernel
theorem dX1_startsWith_16 : decode cX1_startsWith 16 = .ok (.aload_n 1, 1) := by decide +kernel
theorem dX1_startsWith_17 : decode cX1_startsWith 17 = .ok (.getfield 21, 3) := by decide +kernel
theorem dX1_startsWith_20 : decode cX1_startsWith 20 = .ok (.if_icmp .ge 24, 3) := by decide +kernel
theorem dX1_startsWith_23 : decode cX1_startsWith 23 = .ok (.aload_n 0, 1) := by decide +kernel
theorem dX1_startsWith_24 : decode cX1_startsWith 24 = .ok (.iload_n 2, 1) := by decide +kernel
theorem dX1_startsWith_25 : decode cX1_startsWith 25 = .ok (.invokevirtual 25, 3) := by decide +kernel
theorem dX1_startsWith_28 : decode cX1_startsWith 28 = .ok (.aload_n 1, 1) := by decide +kernel
theorem dX1_startsWith_29 : decode cX1_startsWith 29 = .ok (.iload_n 2, 1) := by decide +kernel
theorem dX1_startsWith_30 : decode cX1_startsWith 30 = .ok (.invokevirtual 25, 3) := by decide +kernel
theorem dX1_startsWith_33 : decode cX1_startsWith 33 = .ok (.if_icmp .eq 5, 3) := by decide +kernel
theorem dX1_startsWith_36 : decode cX1_startsWith 36 = .ok (.iconst 0, 1) := by decide +kernel
theorem dX1_startsWith_37 : decode cX1_startsWith 37 = .ok (.ireturn, 1) := by decide +kernel
theorem dX1_startsWith_38 : decode cX1_startsWith 38 = .ok (.iinc 2 1, 3) := by decide +kernel
theorem dX1_startsWith_41 : decode cX1_startsWith 41 = .ok (.goto (-26), 3) := by decide +kernel
theorem dX1_startsWith_44 : decode cX1_startsWith 44 = .ok (.iconst 1, 1) := by decide +kernel
theorem dX1_startsWith_45 : decode cX1_startsWith 45 = .ok (.ireturn, 1) := by decide +kernel
set_option maxRecDepth 20000 in
theorem ggX1_becomeTail_X1_empty : GoodIn wsX1_becomeTail wsX1_empty := goodIn_r _ [6, 1, 16, 17] (by decide +kernel) (by decide +kernel)
set_option maxRecDepth 20000 in
theorem gX1_becomeTail_X1_empty : GoodIn wsX1_becomeTail (wsV RX1 29 RX1 yX1_empty wsX1_empty) := goodIn_app (goodIn_of _ (by decide +kernel)) ggX1_becomeTail_X1_empty
set_option maxRecDepth 20000 in
theorem ggX1_becomeTail_X1_at : GoodIn wsX1_becomeTail wsX1_at := goodIn_r _ [10, 1, 11, 16, 17] (by decide +kernel) (by decide +kernel)
set_option maxRecDepth 20000 in
theorem gX1_becomeTail_X1_at : GoodIn wsX1_becomeTail (wsV RX1 25 RX1 yX1_at wsX1_at) := goodIn_app (goodIn_of _ (by decide +kernel)) ggX1_becomeTail_X1_at
set_option maxRecDepth 20000 in
theorem ggX1_becomeTail_X1_append : GoodIn wsX1_becomeTail wsX1_append := goodIn_r _ [15, 1, 11, 16, 17] (by decide +kernel) (by decide +kernel)
set_option maxRecDepth 20000 in
theorem gX1_becomeTail_X1_append : GoodIn wsX1_becomeTail (wsV RX1 32 RX1 yX1_append wsX1_append) := goodIn_app (goodIn_of _ (by decide +kernel)) ggX1_becomeTail_X1_append
theorem dX1_becomeTail_0 : decode cX1_becomeTail 0 = .ok (.aload_n 0, 1) := by decide +kernel
theorem dX1_becomeTail_1 : decode cX1_becomeTail 1 = .ok (.invokevirtual 29, 3) := by decide +kernel
theorem dX1_becomeTail_4 : decode cX1_becomeTail 4 = .ok (.iload_n 2, 1) := by decide +kernel
theorem dX1_becomeTail_5 : decode cX1_becomeTail 5 = .ok (.istore_n 3, 1) := by decide +kernel
theorem dX1_becomeTail_6 : decode cX1_becomeTail 6 = .ok (.iload_n 3, 1) := by decide +kernel
theorem dX1_becomeTail_7 : decode cX1_becomeTail 7 = .ok (.aload_n 1, 1) := by decide +kernel
theorem dX1_becomeTail_8 : decode cX1_becomeTail 8 = .ok (.getfield 21, 3) := by decide +kernel
theorem dX1_becomeTail_11 : decode cX1_becomeTail 11 = .ok (.if_icmp .ge 19, 3) := by decide +kernel
theorem dX1_becomeTail_14 : decode cX1_becomeTail 14 = .ok (.aload_n 0, 1) := by decide +kernel
theorem dX1_becomeTail_15 : decode cX1_becomeTail 15 = .ok (.aload_n 1, 1) := by decide +kernel
theorem dX1_becomeTail_16 : decode cX1_becomeTail 16 = .ok (.iload_n 3, 1) := by decide +kernel
theorem dX1_becomeTail_17 : decode cX1_becomeTail 17 = .ok (.invokevirtual 25, 3) := by decide +kernel
theorem dX1_becomeTail_20 : decode cX1_becomeTail 20 = .ok (.invokevirtual 32, 3) := by decide +kernel
theorem dX1_becomeTail_23 : decode cX1_becomeTail 23 = .ok (.pop, 1) := by decide +kernel
theorem dX1_becomeTail_24 : decode cX1_becomeTail 24 = .ok (.iinc 3 1, 3) := by decide +kernel
theorem dX1_becomeTail_27 : decode cX1_becomeTail 27 = .ok (.goto (-21), 3) := by decide +kernel
theorem dX1_becomeTail_30 : decode cX1_becomeTail 30 = .ok (.return_, 1) := by decide +kernel
theorem dX2_init_0 : decode cX2_init 0 = .ok (.aload_n 0, 1) := by decide +kernel
theorem dX2_init_1 : decode cX2_init 1 = .ok (.invokespecial 3, 3) := by decide +kernel
theorem dX2_init_4 : decode cX2_init 4 = .ok (.return_, 1) := by decide +kernel
theorem dX2_clear_0 : decode cX2_clear 0 = .ok (.aload_n 0, 1) := by decide +kernel
theorem dX2_clear_1 : decode cX2_clear 1 = .ok (.iconst 0, 1) := by decide +kernel
theorem dX2_clear_2 : decode cX2_clear 2 = .ok (.putfield 9, 3) := by decide +kernel
theorem dX2_clear_5 : decode cX2_clear 5 = .ok (.aload_n 0, 1) := by decide +kernel
theorem dX2_clear_6 : decode cX2_clear 6 = .ok (.iconst 0, 1) := by decide +kernel
theorem dX2_clear_7 : decode cX2_clear 7 = .ok (.putfield 15, 3) := by decide +kernel
theorem dX2_clear_10 : decode cX2_clear 10 = .ok (.aload_n 0, 1) := by decide +kernel
theorem dX2_clear_11 : decode cX2_clear 11 = .ok (.iconst 0, 1) := by decide +kernel
theorem dX2_clear_12 : decode cX2_clear 12 = .ok (.putfield 18, 3) := by decide +kernel
theorem dX2_clear_15 : decode cX2_clear 15 = .ok (.return_, 1) := by decide +kernel
theorem dX2_lines_0 : decode cX2_lines 0 = .ok (.aload_n 0, 1) := by decide +kernel
theorem dX2_lines_1 : decode cX2_lines 1 = .ok (.getfield 9, 3) := by decide +kernel
theorem dX2_lines_4 : decode cX2_lines 4 = .ok (.ireturn, 1) := by decide +kernel
theorem dX2_speed_0 : decode cX2_speed 0 = .ok (.aload_n 0, 1) := by decide +kernel
theorem dX2_speed_1 : decode cX2_speed 1 = .ok (.getfield 15, 3) := by decide +kernel
theorem dX2_speed_4 : decode cX2_speed 4 = .ok (.ireturn, 1) := by decide +kernel
theorem dX2_point_0 : decode cX2_point 0 = .ok (.aload_n 0, 1) := by decide +kernel
theorem dX2_point_1 : decode cX2_point 1 = .ok (.getfield 18, 3) := by decide +kernel
theorem dX2_point_4 : decode cX2_point 4 = .ok (.ireturn, 1) := by decide +kernel
theorem dX2_change_0 : decode cX2_change 0 = .ok (.iload_n 1, 1) := by decide +kernel
theorem dX2_change_1 : decode cX2_change 1 = .ok (.iconst 3, 1) := by decide +kernel
theorem dX2_change_2 : decode cX2_change 2 = .ok (.if_icmp .gt 17, 3) := by decide +kernel
theorem dX2_change_5 : decode cX2_change 5 = .ok (.iload_n 2, 1) := by decide +kernel
theorem dX2_change_6 : decode cX2_change 6 = .ok (.iconst 2, 1) := by decide +kernel
theorem dX2_change_7 : decode cX2_change 7 = .ok (.if_icmp .gt 12, 3) := by decide +kernel
theorem dX2_change_10 : decode cX2_change 10 = .ok (.iload_n 2, 1) := by decide +kernel
theorem dX2_change_11 : decode cX2_change 11 = .ok (.ifCond .ne 10, 3) := by decide +kernel
theorem dX2_change_14 : decode cX2_change 14 = .ok (.iload_n 1, 1) := by decide +kernel
theorem dX2_change_15 : decode cX2_change 15 = .ok (.iconst 1, 1) := by decide +kernel
theorem dX2_change_16 : decode cX2_change 16 = .ok (.if_icmp .le 5, 3) := by decide +kernel
theorem dX2_change_19 : decode cX2_change 19 = .ok (.iconst 0, 1) := by decide +kernel
theorem dX2_change_20 : decode cX2_change 20 = .ok (.ireturn, 1) := by decide +kernel
theorem dX2_change_21 : decode cX2_change 21 = .ok (.aload_n 0, 1) := by decide +kernel
theorem dX2_change_22 : decode cX2_change 22 = .ok (.iload_n 1, 1) := by decide +kernel
theorem dX2_change_23 : decode cX2_change 23 = .ok (.putfield 15, 3) := by decide +kernel
theorem dX2_change_26 : decode cX2_change 26 = .ok (.aload_n 0, 1) := by decide +kernel
theorem dX2_change_27 : decode cX2_change 27 = .ok (.iload_n 2, 1) := by decide +kernel
theorem dX2_change_28 : decode cX2_change 28 = .ok (.putfield 9, 3) := by decide +kernel
theorem dX2_change_31 : decode cX2_change 31 = .ok (.iconst 1, 1) := by decide +kernel
theorem dX2_change_32 : decode cX2_change 32 = .ok (.ireturn, 1) := by decide +kernel
theorem dX2_look_0 : decode cX2_look 0 = .ok (.aload_n 0, 1) := by decide +kernel
theorem dX2_look_1 : decode cX2_look 1 = .ok (.iload_n 1, 1) := by decide +kernel
theorem dX2_look_2 : decode cX2_look 2 = .ok (.putfield 18, 3) := by decide +kernel
theorem dX2_look_5 : decode cX2_look 5 = .ok (.return_, 1) := by decide +kernel
theorem dX2_ticksOfBlock_0 : decode cX2_ticksOfBlock 0 = .ok (.iconst 4, 1) := by decide +kernel
theorem dX2_ticksOfBlock_1 : decode cX2_ticksOfBlock 1 = .ok (.aload_n 0, 1) := by decide +kernel
theorem dX2_ticksOfBlock_2 : decode cX2_ticksOfBlock 2 = .ok (.getfield 9, 3) := by decide +kernel
theorem dX2_ticksOfBlock_5 : decode cX2_ticksOfBlock 5 = .ok (.ishr, 1) := by decide +kernel
theorem dX2_ticksOfBlock_6 : decode cX2_ticksOfBlock 6 = .ok (.ireturn, 1) := by decide +kernel
set_option maxRecDepth 20000 in
theorem ggX2_isInWindow_J9_floorMod_7cf53 : GoodIn wsX2_isInWindow wsJ9_floorMod_7cf53 := goodIn_r _ [10] (by decide +kernel) (by decide +kernel)
set_option maxRecDepth 20000 in
theorem gX2_isInWindow_J9_floorMod_7cf53 : GoodIn wsX2_isInWindow (va_wsS RX2 21 yJ9_floorMod_7cf53 wsJ9_floorMod_7cf53) := goodIn_app (goodIn_of _ (by decide +kernel)) ggX2_isInWindow_J9_floorMod_7cf53
theorem dX2_isInWindow_0 : decode cX2_isInWindow 0 = .ok (.iconst 3, 1) := by decide +kernel
theorem dX2_isInWindow_1 : decode cX2_isInWindow 1 = .ok (.iconst 5, 1) := by decide +kernel
theorem dX2_isInWindow_2 : decode cX2_isInWindow 2 = .ok (.aload_n 0, 1) := by decide +kernel
theorem dX2_isInWindow_3 : decode cX2_isInWindow 3 = .ok (.getfield 15, 3) := by decide +kernel
theorem dX2_isInWindow_6 : decode cX2_isInWindow 6 = .ok (.imul, 1) := by decide +kernel
theorem dX2_isInWindow_7 : decode cX2_isInWindow 7 = .ok (.iadd, 1) := by decide +kernel
theorem dX2_isInWindow_8 : decode cX2_isInWindow 8 = .ok (.iload_n 1, 1) := by decide +kernel
theorem dX2_isInWindow_9 : decode cX2_isInWindow 9 = .ok (.iadd, 1) := by decide +kernel
theorem dX2_isInWindow_10 : decode cX2_isInWindow 10 = .ok (.bipush 16, 2) := by decide +kernel
theorem dX2_isInWindow_12 : decode cX2_isInWindow 12 = .ok (.irem, 1) := by decide +kernel
theorem dX2_isInWindow_13 : decode cX2_isInWindow 13 = .ok (.istore_n 2, 1) := by decide +kernel
theorem dX2_isInWindow_14 : decode cX2_isInWindow 14 = .ok (.aload_n 0, 1) := by decide +kernel
theorem dX2_isInWindow_15 : decode cX2_isInWindow 15 = .ok (.getfield 18, 3) := by decide +kernel
theorem dX2_isInWindow_18 : decode cX2_isInWindow 18 = .ok (.iload_n 2, 1) := by decide +kernel
theorem dX2_isInWindow_19 : decode cX2_isInWindow 19 = .ok (.isub, 1) := by decide +kernel
theorem dX2_isInWindow_20 : decode cX2_isInWindow 20 = .ok (.bipush 16, 2) := by decide +kernel
theorem dX2_isInWindow_22 : decode cX2_isInWindow 22 = .ok (.invokestatic 21, 3) := by decide +kernel
theorem dX2_isInWindow_25 : decode cX2_isInWindow 25 = .ok (.istore_n 3, 1) := by decide +kernel
theorem dX2_isInWindow_26 : decode cX2_isInWindow 26 = .ok (.iload_n 3, 1) := by decide +kernel
theorem dX2_isInWindow_27 : decode cX2_isInWindow 27 = .ok (.bipush 16, 2) := by decide +kernel
theorem dX2_isInWindow_29 : decode cX2_isInWindow 29 = .ok (.iload_n 3, 1) := by decide +kernel
theorem dX2_isInWindow_30 : decode cX2_isInWindow 30 = .ok (.isub, 1) := by decide +kernel
theorem dX2_isInWindow_31 : decode cX2_isInWindow 31 = .ok (.invokestatic 27, 3) := by decide +kernel
theorem dX2_isInWindow_34 : decode cX2_isInWindow 34 = .ok (.istore 4, 2) := by decide +kernel
theorem dX2_isInWindow_36 : decode cX2_isInWindow 36 = .ok (.iload 4, 2) := by decide +kernel
theorem dX2_isInWindow_38 : decode cX2_isInWindow 38 = .ok (.bipush 7, 2) := by decide +kernel
theorem dX2_isInWindow_40 : decode cX2_isInWindow 40 = .ok (.iconst 2, 1) := by decide +kernel
theorem dX2_isInWindow_41 : decode cX2_isInWindow 41 = .ok (.aload_n 0, 1) := by decide +kernel
theorem dX2_isInWindow_42 : decode cX2_isInWindow 42 = .ok (.getfield 15, 3) := by decide +kernel
theorem dX2_isInWindow_45 : decode cX2_isInWindow 45 = .ok (.imul, 1) := by decide +kernel
theorem dX2_isInWindow_46 : decode cX2_isInWindow 46 = .ok (.isub, 1) := by decide +kernel
theorem dX2_isInWindow_47 : decode cX2_isInWindow 47 = .ok (.if_icmp .gt 7, 3) := by decide +kernel
theorem dX2_isInWindow_50 : decode cX2_isInWindow 50 = .ok (.iconst 1, 1) := by decide +kernel
theorem dX2_isInWindow_51 : decode cX2_isInWindow 51 = .ok (.goto 4, 3) := by decide +kernel
theorem dX2_isInWindow_54 : decode cX2_isInWindow 54 = .ok (.iconst 0, 1) := by decide +kernel
theorem dX2_isInWindow_55 : decode cX2_isInWindow 55 = .ok (.ireturn, 1) := by decide +kernel
theorem dX3_init_0 : decode cX3_init 0 = .ok (.aload_n 0, 1) := by decide +kernel
theorem dX3_init_1 : decode cX3_init 1 = .ok (.invokespecial 3, 3) := by decide +kernel
theorem dX3_init_4 : decode cX3_init 4 = .ok (.aload_n 0, 1) := by decide +kernel
theorem dX3_init_5 : decode cX3_init 5 = .ok (.bipush 64, 2) := by decide +kernel
theorem dX3_init_7 : decode cX3_init 7 = .ok (.newarray .int, 2) := by decide +kernel
theorem dX3_init_9 : decode cX3_init 9 = .ok (.putfield 9, 3) := by decide +kernel
theorem dX3_init_12 : decode cX3_init 12 = .ok (.aload_n 0, 1) := by decide +kernel
theorem dX3_init_13 : decode cX3_init 13 = .ok (.bipush 64, 2) := by decide +kernel
theorem dX3_init_15 : decode cX3_init 15 = .ok (.newarray .boolean, 2) := by decide +kernel
theorem dX3_init_17 : decode cX3_init 17 = .ok (.putfield 15, 3) := by decide +kernel
theorem dX3_init_20 : decode cX3_init 20 = .ok (.aload_n 0, 1) := by decide +kernel
theorem dX3_init_21 : decode cX3_init 21 = .ok (.bipush 64, 2) := by decide +kernel
theorem dX3_init_23 : decode cX3_init 23 = .ok (.newarray .int, 2) := by decide +kernel
theorem dX3_init_25 : decode cX3_init 25 = .ok (.putfield 19, 3) := by decide +kernel
theorem dX3_init_28 : decode cX3_init 28 = .ok (.return_, 1) := by decide +kernel
theorem dX3_clear_0 : decode cX3_clear 0 = .ok (.aload_n 0, 1) := by decide +kernel
theorem dX3_clear_1 : decode cX3_clear 1 = .ok (.iconst 0, 1) := by decide +kernel
theorem dX3_clear_2 : decode cX3_clear 2 = .ok (.iload_n 1, 1) := by decide +kernel
theorem dX3_clear_3 : decode cX3_clear 3 = .ok (.bipush 64, 2) := by decide +kernel
theorem dX3_clear_5 : decode cX3_clear 5 = .ok (.invokestatic 22, 3) := by decide +kernel
theorem dX3_clear_8 : decode cX3_clear 8 = .ok (.invokestatic 28, 3) := by decide +kernel
theorem dX3_clear_11 : decode cX3_clear 11 = .ok (.putfield 31, 3) := by decide +kernel
theorem dX3_clear_14 : decode cX3_clear 14 = .ok (.aload_n 0, 1) := by decide +kernel
theorem dX3_clear_15 : decode cX3_clear 15 = .ok (.iconst 1, 1) := by decide +kernel
theorem dX3_clear_16 : decode cX3_clear 16 = .ok (.iload_n 2, 1) := by decide +kernel
theorem dX3_clear_17 : decode cX3_clear 17 = .ok (.invokestatic 28, 3) := by decide +kernel
theorem dX3_clear_20 : decode cX3_clear 20 = .ok (.putfield 35, 3) := by decide +kernel
theorem dX3_clear_23 : decode cX3_clear 23 = .ok (.aload_n 0, 1) := by decide +kernel
theorem dX3_clear_24 : decode cX3_clear 24 = .ok (.iconst 0, 1) := by decide +kernel
theorem dX3_clear_25 : decode cX3_clear 25 = .ok (.putfield 38, 3) := by decide +kernel
theorem dX3_clear_28 : decode cX3_clear 28 = .ok (.iconst 0, 1) := by decide +kernel
theorem dX3_clear_29 : decode cX3_clear 29 = .ok (.istore_n 3, 1) := by decide +kernel
theorem dX3_clear_30 : decode cX3_clear 30 = .ok (.iload_n 3, 1) := by decide +kernel
theorem dX3_clear_31 : decode cX3_clear 31 = .ok (.bipush 64, 2) := by decide +kernel
theorem dX3_clear_33 : decode cX3_clear 33 = .ok (.if_icmp .ge 24, 3) := by decide +kernel
theorem dX3_clear_36 : decode cX3_clear 36 = .ok (.aload_n 0, 1) := by decide +kernel
theorem dX3_clear_37 : decode cX3_clear 37 = .ok (.getfield 9, 3) := by decide +kernel
theorem dX3_clear_40 : decode cX3_clear 40 = .ok (.iload_n 3, 1) := by decide +kernel
theorem dX3_clear_41 : decode cX3_clear 41 = .ok (.ldc 41, 2) := by decide +kernel
theorem dX3_clear_43 : decode cX3_clear 43 = .ok (.iastore, 1) := by decide +kernel
theorem dX3_clear_44 : decode cX3_clear 44 = .ok (.aload_n 0, 1) := by decide +kernel
theorem dX3_clear_45 : decode cX3_clear 45 = .ok (.getfield 15, 3) := by decide +kernel
theorem dX3_clear_48 : decode cX3_clear 48 = .ok (.iload_n 3, 1) := by decide +kernel
theorem dX3_clear_49 : decode cX3_clear 49 = .ok (.iconst 0, 1) := by decide +kernel
theorem dX3_clear_50 : decode cX3_clear 50 = .ok (.bastore, 1) := by decide +kernel
theorem dX3_clear_51 : decode cX3_clear 51 = .ok (.iinc 3 1, 3) := by decide +kernel
theorem dX3_clear_54 : decode cX3_clear 54 = .ok (.goto (-24), 3) := by decide +kernel
theorem dX3_clear_57 : decode cX3_clear 57 = .ok (.return_, 1) := by decide +kernel
theorem dX3_size_0 : decode cX3_size 0 = .ok (.aload_n 0, 1) := by decide +kernel
theorem dX3_size_1 : decode cX3_size 1 = .ok (.getfield 31, 3) := by decide +kernel
theorem dX3_size_4 : decode cX3_size 4 = .ok (.ireturn, 1) := by decide +kernel
theorem dX3_groupSize_0 : decode cX3_groupSize 0 = .ok (.aload_n 0, 1) := by decide +kernel
theorem dX3_groupSize_1 : decode cX3_groupSize 1 = .ok (.getfield 35, 3) := by decide +kernel
theorem dX3_groupSize_4 : decode cX3_groupSize 4 = .ok (.ireturn, 1) := by decide +kernel
theorem dX3_has_0 : decode cX3_has 0 = .ok (.iload_n 1, 1) := by decide +kernel
theorem dX3_has_1 : decode cX3_has 1 = .ok (.ifCond .lt 15, 3) := by decide +kernel
theorem dX3_has_4 : decode cX3_has 4 = .ok (.iload_n 1, 1) := by decide +kernel
theorem dX3_has_5 : decode cX3_has 5 = .ok (.aload_n 0, 1) := by decide +kernel
theorem dX3_has_6 : decode cX3_has 6 = .ok (.getfield 31, 3) := by decide +kernel
theorem dX3_has_9 : decode cX3_has 9 = .ok (.if_icmp .ge 7, 3) := by decide +kernel
theorem dX3_has_12 : decode cX3_has 12 = .ok (.iconst 1, 1) := by decide +kernel
theorem dX3_has_13 : decode cX3_has 13 = .ok (.goto 4, 3) := by decide +kernel
theorem dX3_has_16 : decode cX3_has 16 = .ok (.iconst 0, 1) := by decide +kernel
theorem dX3_has_17 : decode cX3_has 17 = .ok (.ireturn, 1) := by decide +kernel
theorem dX3_groupOf_0 : decode cX3_groupOf 0 = .ok (.aload_n 0, 1) := by decide +kernel
theorem dX3_groupOf_1 : decode cX3_groupOf 1 = .ok (.getfield 35, 3) := by decide +kernel
theorem dX3_groupOf_4 : decode cX3_groupOf 4 = .ok (.ifCond .le 12, 3) := by decide +kernel
theorem dX3_groupOf_7 : decode cX3_groupOf 7 = .ok (.iload_n 1, 1) := by decide +kernel
theorem dX3_groupOf_8 : decode cX3_groupOf 8 = .ok (.aload_n 0, 1) := by decide +kernel
theorem dX3_groupOf_9 : decode cX3_groupOf 9 = .ok (.getfield 35, 3) := by decide +kernel
theorem dX3_groupOf_12 : decode cX3_groupOf 12 = .ok (.idiv, 1) := by decide +kernel
theorem dX3_groupOf_13 : decode cX3_groupOf 13 = .ok (.goto 4, 3) := by decide +kernel
theorem dX3_groupOf_16 : decode cX3_groupOf 16 = .ok (.iconst 0, 1) := by decide +kernel
theorem dX3_groupOf_17 : decode cX3_groupOf 17 = .ok (.ireturn, 1) := by decide +kernel
set_option maxRecDepth 20000 in
theorem ggX3_contentOf_X3_has : GoodIn wsX3_contentOf wsX3_has := goodIn_r _ [7, 8, 9, 10, 11, 12, 13, 14] (by decide +kernel) (by decide +kernel)
set_option maxRecDepth 20000 in
theorem gX3_contentOf_X3_has : GoodIn wsX3_contentOf (wsV RX3 42 RX3 yX3_has wsX3_has) := goodIn_app (goodIn_of _ (by decide +kernel)) ggX3_contentOf_X3_has
theorem dX3_contentOf_0 : decode cX3_contentOf 0 = .ok (.aload_n 0, 1) := by decide +kernel
theorem dX3_contentOf_1 : decode cX3_contentOf 1 = .ok (.iload_n 1, 1) := by decide +kernel
theorem dX3_contentOf_2 : decode cX3_contentOf 2 = .ok (.invokevirtual 42, 3) := by decide +kernel
theorem dX3_contentOf_5 : decode cX3_contentOf 5 = .ok (.ifCond .eq 12, 3) := by decide +kernel
theorem dX3_contentOf_8 : decode cX3_contentOf 8 = .ok (.aload_n 0, 1) := by decide +kernel
theorem dX3_contentOf_9 : decode cX3_contentOf 9 = .ok (.getfield 9, 3) := by decide +kernel
theorem dX3_contentOf_12 : decode cX3_contentOf 12 = .ok (.iload_n 1, 1) := by decide +kernel
theorem dX3_contentOf_13 : decode cX3_contentOf 13 = .ok (.iaload, 1) := by decide +kernel
theorem dX3_contentOf_14 : decode cX3_contentOf 14 = .ok (.goto 5, 3) := by decide +kernel
theorem dX3_contentOf_17 : decode cX3_contentOf 17 = .ok (.ldc 41, 2) := by decide +kernel
theorem dX3_contentOf_19 : decode cX3_contentOf 19 = .ok (.ireturn, 1) := by decide +kernel
set_option maxRecDepth 20000 in
theorem ggX3_isTorn_X3_has : GoodIn wsX3_isTorn wsX3_has := goodIn_r _ [6, 7, 8, 9, 10, 11, 12, 13] (by decide +kernel) (by decide +kernel)
set_option maxRecDepth 20000 in
theorem gX3_isTorn_X3_has : GoodIn wsX3_isTorn (wsV RX3 42 RX3 yX3_has wsX3_has) := goodIn_app (goodIn_of _ (by decide +kernel)) ggX3_isTorn_X3_has
theorem dX3_isTorn_0 : decode cX3_isTorn 0 = .ok (.aload_n 0, 1) := by decide +kernel
theorem dX3_isTorn_1 : decode cX3_isTorn 1 = .ok (.iload_n 1, 1) := by decide +kernel
theorem dX3_isTorn_2 : decode cX3_isTorn 2 = .ok (.invokevirtual 42, 3) := by decide +kernel
theorem dX3_isTorn_5 : decode cX3_isTorn 5 = .ok (.ifCond .eq 16, 3) := by decide +kernel
theorem dX3_isTorn_8 : decode cX3_isTorn 8 = .ok (.aload_n 0, 1) := by decide +kernel
theorem dX3_isTorn_9 : decode cX3_isTorn 9 = .ok (.getfield 15, 3) := by decide +kernel
theorem dX3_isTorn_12 : decode cX3_isTorn 12 = .ok (.iload_n 1, 1) := by decide +kernel
theorem dX3_isTorn_13 : decode cX3_isTorn 13 = .ok (.baload, 1) := by decide +kernel
theorem dX3_isTorn_14 : decode cX3_isTorn 14 = .ok (.ifCond .eq 7, 3) := by decide +kernel
theorem dX3_isTorn_17 : decode cX3_isTorn 17 = .ok (.iconst 1, 1) := by decide +kernel
theorem dX3_isTorn_18 : decode cX3_isTorn 18 = .ok (.goto 4, 3) := by decide +kernel
theorem dX3_isTorn_21 : decode cX3_isTorn 21 = .ok (.iconst 0, 1) := by decide +kernel
theorem dX3_isTorn_22 : decode cX3_isTorn 22 = .ok (.ireturn, 1) := by decide +kernel
theorem dX3_writtenAt_0 : decode cX3_writtenAt 0 = .ok (.iload_n 1, 1) := by decide +kernel
theorem dX3_writtenAt_1 : decode cX3_writtenAt 1 = .ok (.ifCond .lt 26, 3) := by decide +kernel
theorem dX3_writtenAt_4 : decode cX3_writtenAt 4 = .ok (.iload_n 1, 1) := by decide +kernel
theorem dX3_writtenAt_5 : decode cX3_writtenAt 5 = .ok (.aload_n 0, 1) := by decide +kernel
theorem dX3_writtenAt_6 : decode cX3_writtenAt 6 = .ok (.getfield 38, 3) := by decide +kernel
theorem dX3_writtenAt_9 : decode cX3_writtenAt 9 = .ok (.if_icmp .ge 18, 3) := by decide +kernel
theorem dX3_writtenAt_12 : decode cX3_writtenAt 12 = .ok (.iload_n 1, 1) := by decide +kernel
theorem dX3_writtenAt_13 : decode cX3_writtenAt 13 = .ok (.bipush 64, 2) := by decide +kernel
theorem dX3_writtenAt_15 : decode cX3_writtenAt 15 = .ok (.if_icmp .ge 12, 3) := by decide +kernel
theorem dX3_writtenAt_18 : decode cX3_writtenAt 18 = .ok (.aload_n 0, 1) := by decide +kernel
theorem dX3_writtenAt_19 : decode cX3_writtenAt 19 = .ok (.getfield 19, 3) := by decide +kernel
theorem dX3_writtenAt_22 : decode cX3_writtenAt 22 = .ok (.iload_n 1, 1) := by decide +kernel
theorem dX3_writtenAt_23 : decode cX3_writtenAt 23 = .ok (.iaload, 1) := by decide +kernel
theorem dX3_writtenAt_24 : decode cX3_writtenAt 24 = .ok (.goto 5, 3) := by decide +kernel
theorem dX3_writtenAt_27 : decode cX3_writtenAt 27 = .ok (.bipush (-4), 2) := by decide +kernel
theorem dX3_writtenAt_29 : decode cX3_writtenAt 29 = .ok (.ireturn, 1) := by decide +kernel
set_option maxRecDepth 20000 in
theorem ggX3_put_X3_has : GoodIn wsX3_put wsX3_has := goodIn_r _ [7, 8, 19, 20, 21, 22, 23, 24] (by decide +kernel) (by decide +kernel)
set_option maxRecDepth 20000 in
theorem gX3_put_X3_has : GoodIn wsX3_put (wsV RX3 42 RX3 yX3_has wsX3_has) := goodIn_app (goodIn_of _ (by decide +kernel)) ggX3_put_X3_has
set_option maxRecDepth 20000 in
theorem ggX3_put_X3_dropWritten : GoodIn wsX3_put wsX3_dropWritten := goodIn_r _ [12, 13, 14, 19, 20, 21, 22, 23, 24] (by decide +kernel) (by decide +kernel)
set_option maxRecDepth 20000 in
theorem gX3_put_X3_dropWritten : GoodIn wsX3_put (wsV RX3 46 RX3 yX3_dropWritten wsX3_dropWritten) := goodIn_app (goodIn_of _ (by decide +kernel)) ggX3_put_X3_dropWritten
set_option maxRecDepth 20000 in
theorem ggX3_put_X3_addWrittenFirst : GoodIn wsX3_put wsX3_addWrittenFirst := goodIn_r _ [18, 13, 14, 19, 20, 21, 22, 23, 24] (by decide +kernel) (by decide +kernel)
set_option maxRecDepth 20000 in
theorem gX3_put_X3_addWrittenFirst : GoodIn wsX3_put (wsV RX3 50 RX3 yX3_addWrittenFirst wsX3_addWrittenFirst) := goodIn_app (goodIn_of _ (by decide +kernel)) ggX3_put_X3_addWrittenFirst
theorem dX3_put_0 : decode cX3_put 0 = .ok (.aload_n 0, 1) := by decide +kernel
theorem dX3_put_1 : decode cX3_put 1 = .ok (.iload_n 1, 1) := by decide +kernel
theorem dX3_put_2 : decode cX3_put 2 = .ok (.invokevirtual 42, 3) := by decide +kernel
theorem dX3_put_5 : decode cX3_put 5 = .ok (.ifCond .ne 4, 3) := by decide +kernel
theorem dX3_put_8 : decode cX3_put 8 = .ok (.return_, 1) := by decide +kernel
theorem dX3_put_9 : decode cX3_put 9 = .ok (.aload_n 0, 1) := by decide +kernel
theorem dX3_put_10 : decode cX3_put 10 = .ok (.getfield 9, 3) := by decide +kernel
theorem dX3_put_13 : decode cX3_put 13 = .ok (.iload_n 1, 1) := by decide +kernel
theorem dX3_put_14 : decode cX3_put 14 = .ok (.iload_n 2, 1) := by decide +kernel
theorem dX3_put_15 : decode cX3_put 15 = .ok (.iastore, 1) := by decide +kernel
theorem dX3_put_16 : decode cX3_put 16 = .ok (.aload_n 0, 1) := by decide +kernel
theorem dX3_put_17 : decode cX3_put 17 = .ok (.getfield 15, 3) := by decide +kernel
theorem dX3_put_20 : decode cX3_put 20 = .ok (.iload_n 1, 1) := by decide +kernel
theorem dX3_put_21 : decode cX3_put 21 = .ok (.iconst 0, 1) := by decide +kernel
theorem dX3_put_22 : decode cX3_put 22 = .ok (.bastore, 1) := by decide +kernel
theorem dX3_put_23 : decode cX3_put 23 = .ok (.aload_n 0, 1) := by decide +kernel
theorem dX3_put_24 : decode cX3_put 24 = .ok (.iload_n 1, 1) := by decide +kernel
theorem dX3_put_25 : decode cX3_put 25 = .ok (.iload_n 1, 1) := by decide +kernel
theorem dX3_put_26 : decode cX3_put 26 = .ok (.iconst 1, 1) := by decide +kernel
theorem dX3_put_27 : decode cX3_put 27 = .ok (.iadd, 1) := by decide +kernel
theorem dX3_put_28 : decode cX3_put 28 = .ok (.invokevirtual 46, 3) := by decide +kernel
theorem dX3_put_31 : decode cX3_put 31 = .ok (.aload_n 0, 1) := by decide +kernel
theorem dX3_put_32 : decode cX3_put 32 = .ok (.iload_n 1, 1) := by decide +kernel
theorem dX3_put_33 : decode cX3_put 33 = .ok (.invokevirtual 50, 3) := by decide +kernel
theorem dX3_put_36 : decode cX3_put 36 = .ok (.return_, 1) := by decide +kernel
set_option maxRecDepth 20000 in
theorem ggX3_tear_X3_blank : GoodIn wsX3_tear wsX3_blank := goodIn_r _ [5, 6, 7, 8, 9, 10, 11, 12, 13, 14, 15, 16, 17, 18, 19, 4, 20, 21, 22, 23, 24, 25, 26, 27, 28] (by decide +kernel) (by decide +kernel)
set_option maxRecDepth 20000 in
theorem gX3_tear_X3_blank : GoodIn wsX3_tear (wsV RX3 54 RX3 yX3_blank wsX3_blank) := goodIn_app (goodIn_of _ (by decide +kernel)) ggX3_tear_X3_blank
theorem dX3_tear_0 : decode cX3_tear 0 = .ok (.aload_n 0, 1) := by decide +kernel
theorem dX3_tear_1 : decode cX3_tear 1 = .ok (.iload_n 1, 1) := by decide +kernel
theorem dX3_tear_2 : decode cX3_tear 2 = .ok (.iconst 1, 1) := by decide +kernel
theorem dX3_tear_3 : decode cX3_tear 3 = .ok (.iconst 1, 1) := by decide +kernel
theorem dX3_tear_4 : decode cX3_tear 4 = .ok (.invokevirtual 54, 3) := by decide +kernel
theorem dX3_tear_7 : decode cX3_tear 7 = .ok (.return_, 1) := by decide +kernel
set_option maxRecDepth 20000 in
theorem ggX3_tearGroup_X3_blank : GoodIn wsX3_tearGroup wsX3_blank := goodIn_r _ [6, 7, 8, 9, 10, 11, 12, 13, 14, 15, 16, 17, 18, 19, 20, 5, 21, 22, 23, 24, 25, 26, 27, 28, 29] (by decide +kernel) (by decide +kernel)
set_option maxRecDepth 20000 in
theorem gX3_tearGroup_X3_blank : GoodIn wsX3_tearGroup (wsV RX3 54 RX3 yX3_blank wsX3_blank) := goodIn_app (goodIn_of _ (by decide +kernel)) ggX3_tearGroup_X3_blank
theorem dX3_tearGroup_0 : decode cX3_tearGroup 0 = .ok (.aload_n 0, 1) := by decide +kernel
theorem dX3_tearGroup_1 : decode cX3_tearGroup 1 = .ok (.iload_n 1, 1) := by decide +kernel
theorem dX3_tearGroup_2 : decode cX3_tearGroup 2 = .ok (.aload_n 0, 1) := by decide +kernel
theorem dX3_tearGroup_3 : decode cX3_tearGroup 3 = .ok (.getfield 35, 3) := by decide +kernel
theorem dX3_tearGroup_6 : decode cX3_tearGroup 6 = .ok (.imul, 1) := by decide +kernel
theorem dX3_tearGroup_7 : decode cX3_tearGroup 7 = .ok (.aload_n 0, 1) := by decide +kernel
theorem dX3_tearGroup_8 : decode cX3_tearGroup 8 = .ok (.getfield 35, 3) := by decide +kernel
theorem dX3_tearGroup_11 : decode cX3_tearGroup 11 = .ok (.iconst 1, 1) := by decide +kernel
theorem dX3_tearGroup_12 : decode cX3_tearGroup 12 = .ok (.invokevirtual 54, 3) := by decide +kernel
theorem dX3_tearGroup_15 : decode cX3_tearGroup 15 = .ok (.return_, 1) := by decide +kernel
set_option maxRecDepth 20000 in
theorem ggX3_eraseGroup_X3_blank : GoodIn wsX3_eraseGroup wsX3_blank := goodIn_r _ [6, 7, 8, 9, 10, 11, 12, 13, 14, 15, 16, 17, 18, 19, 20, 5, 21, 22, 23, 24, 25, 26, 27, 28, 29] (by decide +kernel) (by decide +kernel)
set_option maxRecDepth 20000 in
theorem gX3_eraseGroup_X3_blank : GoodIn wsX3_eraseGroup (wsV RX3 54 RX3 yX3_blank wsX3_blank) := goodIn_app (goodIn_of _ (by decide +kernel)) ggX3_eraseGroup_X3_blank
theorem dX3_eraseGroup_0 : decode cX3_eraseGroup 0 = .ok (.aload_n 0, 1) := by decide +kernel
theorem dX3_eraseGroup_1 : decode cX3_eraseGroup 1 = .ok (.iload_n 1, 1) := by decide +kernel
theorem dX3_eraseGroup_2 : decode cX3_eraseGroup 2 = .ok (.aload_n 0, 1) := by decide +kernel
theorem dX3_eraseGroup_3 : decode cX3_eraseGroup 3 = .ok (.getfield 35, 3) := by decide +kernel
theorem dX3_eraseGroup_6 : decode cX3_eraseGroup 6 = .ok (.imul, 1) := by decide +kernel
theorem dX3_eraseGroup_7 : decode cX3_eraseGroup 7 = .ok (.aload_n 0, 1) := by decide +kernel
theorem dX3_eraseGroup_8 : decode cX3_eraseGroup 8 = .ok (.getfield 35, 3) := by decide +kernel
theorem dX3_eraseGroup_11 : decode cX3_eraseGroup 11 = .ok (.iconst 0, 1) := by decide +kernel
theorem dX3_eraseGroup_12 : decode cX3_eraseGroup 12 = .ok (.invokevirtual 54, 3) := by decide +kernel
theorem dX3_eraseGroup_15 : decode cX3_eraseGroup 15 = .ok (.return_, 1) := by decide +kernel
set_option maxRecDepth 20000 in
theorem ggX3_tornBlocks_X3_isTorn : GoodIn wsX3_tornBlocks wsX3_isTorn := goodIn_r _ [6, 7, 8, 9, 10, 5, 11, 1, 15, 16, 17, 18, 19, 20] (by decide +kernel) (by decide +kernel)
set_option maxRecDepth 20000 in
theorem gX3_tornBlocks_X3_isTorn : GoodIn wsX3_tornBlocks (wsV RX3 58 RX3 yX3_isTorn wsX3_isTorn) := goodIn_app (goodIn_of _ (by decide +kernel)) ggX3_tornBlocks_X3_isTorn
set_option maxRecDepth 20000 in
theorem ggX3_tornBlocks_X6_asNumber : GoodIn wsX3_tornBlocks wsX6_asNumber := goodIn_r _ [14] (by decide +kernel) (by decide +kernel)
set_option maxRecDepth 20000 in
theorem gX3_tornBlocks_X6_asNumber_n61 : GoodIn wsX3_tornBlocks (wsX6_asNumber) := ggX3_tornBlocks_X6_asNumber
theorem dX3_tornBlocks_0 : decode cX3_tornBlocks 0 = .ok (.iconst 0, 1) := by decide +kernel
theorem dX3_tornBlocks_1 : decode cX3_tornBlocks 1 = .ok (.istore_n 1, 1) := by decide +kernel
theorem dX3_tornBlocks_2 : decode cX3_tornBlocks 2 = .ok (.iconst 0, 1) := by decide +kernel
theorem dX3_tornBlocks_3 : decode cX3_tornBlocks 3 = .ok (.istore_n 2, 1) := by decide +kernel
theorem dX3_tornBlocks_4 : decode cX3_tornBlocks 4 = .ok (.iload_n 2, 1) := by decide +kernel
theorem dX3_tornBlocks_5 : decode cX3_tornBlocks 5 = .ok (.aload_n 0, 1) := by decide +kernel
theorem dX3_tornBlocks_6 : decode cX3_tornBlocks 6 = .ok (.getfield 31, 3) := by decide +kernel
theorem dX3_tornBlocks_9 : decode cX3_tornBlocks 9 = .ok (.if_icmp .ge 20, 3) := by decide +kernel
theorem dX3_tornBlocks_12 : decode cX3_tornBlocks 12 = .ok (.iload_n 1, 1) := by decide +kernel
theorem dX3_tornBlocks_13 : decode cX3_tornBlocks 13 = .ok (.aload_n 0, 1) := by decide +kernel
theorem dX3_tornBlocks_14 : decode cX3_tornBlocks 14 = .ok (.iload_n 2, 1) := by decide +kernel
theorem dX3_tornBlocks_15 : decode cX3_tornBlocks 15 = .ok (.invokevirtual 58, 3) := by decide +kernel
theorem dX3_tornBlocks_18 : decode cX3_tornBlocks 18 = .ok (.invokestatic 61, 3) := by decide +kernel
theorem dX3_tornBlocks_21 : decode cX3_tornBlocks 21 = .ok (.iadd, 1) := by decide +kernel
theorem dX3_tornBlocks_22 : decode cX3_tornBlocks 22 = .ok (.istore_n 1, 1) := by decide +kernel
theorem dX3_tornBlocks_23 : decode cX3_tornBlocks 23 = .ok (.iinc 2 1, 3) := by decide +kernel
theorem dX3_tornBlocks_26 : decode cX3_tornBlocks 26 = .ok (.goto (-22), 3) := by decide +kernel
theorem dX3_tornBlocks_29 : decode cX3_tornBlocks 29 = .ok (.iload_n 1, 1) := by decide +kernel
theorem dX3_tornBlocks_30 : decode cX3_tornBlocks 30 = .ok (.ireturn, 1) := by decide +kernel
set_option maxRecDepth 20000 in
theorem ggX3_filledBlocks_X3_contentOf : GoodIn wsX3_filledBlocks wsX3_contentOf := goodIn_r _ [7, 8, 2, 9, 10, 11, 6, 12, 1, 16, 17, 18, 19, 20, 21] (by decide +kernel) (by decide +kernel)
set_option maxRecDepth 20000 in
theorem gX3_filledBlocks_X3_contentOf : GoodIn wsX3_filledBlocks (wsV RX3 65 RX3 yX3_contentOf wsX3_contentOf) := goodIn_app (goodIn_of _ (by decide +kernel)) ggX3_filledBlocks_X3_contentOf
set_option maxRecDepth 20000 in
theorem ggX3_filledBlocks_X6_asNumber : GoodIn wsX3_filledBlocks wsX6_asNumber := goodIn_r _ [15] (by decide +kernel) (by decide +kernel)
set_option maxRecDepth 20000 in
theorem gX3_filledBlocks_X6_asNumber_n61 : GoodIn wsX3_filledBlocks (wsX6_asNumber) := ggX3_filledBlocks_X6_asNumber
theorem dX3_filledBlocks_0 : decode cX3_filledBlocks 0 = .ok (.iconst 0, 1) := by decide +kernel
theorem dX3_filledBlocks_1 : decode cX3_filledBlocks 1 = .ok (.istore_n 1, 1) := by decide +kernel
theorem dX3_filledBlocks_2 : decode cX3_filledBlocks 2 = .ok (.iconst 0, 1) := by decide +kernel
theorem dX3_filledBlocks_3 : decode cX3_filledBlocks 3 = .ok (.istore_n 2, 1) := by decide +kernel
theorem dX3_filledBlocks_4 : decode cX3_filledBlocks 4 = .ok (.iload_n 2, 1) := by decide +kernel
theorem dX3_filledBlocks_5 : decode cX3_filledBlocks 5 = .ok (.aload_n 0, 1) := by decide +kernel
theorem dX3_filledBlocks_6 : decode cX3_filledBlocks 6 = .ok (.getfield 31, 3) := by decide +kernel
theorem dX3_filledBlocks_9 : decode cX3_filledBlocks 9 = .ok (.if_icmp .ge 30, 3) := by decide +kernel
theorem dX3_filledBlocks_12 : decode cX3_filledBlocks 12 = .ok (.iload_n 1, 1) := by decide +kernel
theorem dX3_filledBlocks_13 : decode cX3_filledBlocks 13 = .ok (.aload_n 0, 1) := by decide +kernel
theorem dX3_filledBlocks_14 : decode cX3_filledBlocks 14 = .ok (.iload_n 2, 1) := by decide +kernel
theorem dX3_filledBlocks_15 : decode cX3_filledBlocks 15 = .ok (.invokevirtual 65, 3) := by decide +kernel
theorem dX3_filledBlocks_18 : decode cX3_filledBlocks 18 = .ok (.ldc 41, 2) := by decide +kernel
theorem dX3_filledBlocks_20 : decode cX3_filledBlocks 20 = .ok (.if_icmp .eq 7, 3) := by decide +kernel
theorem dX3_filledBlocks_23 : decode cX3_filledBlocks 23 = .ok (.iconst 1, 1) := by decide +kernel
theorem dX3_filledBlocks_24 : decode cX3_filledBlocks 24 = .ok (.goto 4, 3) := by decide +kernel
theorem dX3_filledBlocks_27 : decode cX3_filledBlocks 27 = .ok (.iconst 0, 1) := by decide +kernel
theorem dX3_filledBlocks_28 : decode cX3_filledBlocks 28 = .ok (.invokestatic 61, 3) := by decide +kernel
theorem dX3_filledBlocks_31 : decode cX3_filledBlocks 31 = .ok (.iadd, 1) := by decide +kernel
theorem dX3_filledBlocks_32 : decode cX3_filledBlocks 32 = .ok (.istore_n 1, 1) := by decide +kernel
theorem dX3_filledBlocks_33 : decode cX3_filledBlocks 33 = .ok (.iinc 2 1, 3) := by decide +kernel
theorem dX3_filledBlocks_36 : decode cX3_filledBlocks 36 = .ok (.goto (-32), 3) := by decide +kernel
theorem dX3_filledBlocks_39 : decode cX3_filledBlocks 39 = .ok (.iload_n 1, 1) := by decide +kernel
theorem dX3_filledBlocks_40 : decode cX3_filledBlocks 40 = .ok (.ireturn, 1) := by decide +kernel
set_option maxRecDepth 20000 in
theorem ggX3_blank_X3_dropWritten : GoodIn wsX3_blank wsX3_dropWritten := goodIn_r _ [16, 17, 18, 19, 20, 21, 22, 23, 24] (by decide +kernel) (by decide +kernel)
set_option maxRecDepth 20000 in
theorem gX3_blank_X3_dropWritten : GoodIn wsX3_blank (wsV RX3 46 RX3 yX3_dropWritten wsX3_dropWritten) := goodIn_app (goodIn_of _ (by decide +kernel)) ggX3_blank_X3_dropWritten
theorem dX3_blank_0 : decode cX3_blank 0 = .ok (.iload_n 1, 1) := by decide +kernel
theorem dX3_blank_1 : decode cX3_blank 1 = .ok (.iload_n 2, 1) := by decide +kernel
theorem dX3_blank_2 : decode cX3_blank 2 = .ok (.iadd, 1) := by decide +kernel
theorem dX3_blank_3 : decode cX3_blank 3 = .ok (.aload_n 0, 1) := by decide +kernel
theorem dX3_blank_4 : decode cX3_blank 4 = .ok (.getfield 31, 3) := by decide +kernel
theorem dX3_blank_7 : decode cX3_blank 7 = .ok (.invokestatic 22, 3) := by decide +kernel
theorem dX3_blank_10 : decode cX3_blank 10 = .ok (.istore 4, 2) := by decide +kernel
theorem dX3_blank_12 : decode cX3_blank 12 = .ok (.iconst 0, 1) := by decide +kernel
theorem dX3_blank_13 : decode cX3_blank 13 = .ok (.iload_n 1, 1) := by decide +kernel
theorem dX3_blank_14 : decode cX3_blank 14 = .ok (.invokestatic 28, 3) := by decide +kernel
theorem dX3_blank_17 : decode cX3_blank 17 = .ok (.istore 5, 2) := by decide +kernel
theorem dX3_blank_19 : decode cX3_blank 19 = .ok (.iload 5, 2) := by decide +kernel
theorem dX3_blank_21 : decode cX3_blank 21 = .ok (.iload 4, 2) := by decide +kernel
theorem dX3_blank_23 : decode cX3_blank 23 = .ok (.if_icmp .ge 26, 3) := by decide +kernel
theorem dX3_blank_26 : decode cX3_blank 26 = .ok (.aload_n 0, 1) := by decide +kernel
theorem dX3_blank_27 : decode cX3_blank 27 = .ok (.getfield 9, 3) := by decide +kernel
theorem dX3_blank_30 : decode cX3_blank 30 = .ok (.iload 5, 2) := by decide +kernel
theorem dX3_blank_32 : decode cX3_blank 32 = .ok (.ldc 41, 2) := by decide +kernel
theorem dX3_blank_34 : decode cX3_blank 34 = .ok (.iastore, 1) := by decide +kernel
theorem dX3_blank_35 : decode cX3_blank 35 = .ok (.aload_n 0, 1) := by decide +kernel
theorem dX3_blank_36 : decode cX3_blank 36 = .ok (.getfield 15, 3) := by decide +kernel
theorem dX3_blank_39 : decode cX3_blank 39 = .ok (.iload 5, 2) := by decide +kernel
theorem dX3_blank_41 : decode cX3_blank 41 = .ok (.iload_n 3, 1) := by decide +kernel
theorem dX3_blank_42 : decode cX3_blank 42 = .ok (.bastore, 1) := by decide +kernel
theorem dX3_blank_43 : decode cX3_blank 43 = .ok (.iinc 5 1, 3) := by decide +kernel
theorem dX3_blank_46 : decode cX3_blank 46 = .ok (.goto (-27), 3) := by decide +kernel
theorem dX3_blank_49 : decode cX3_blank 49 = .ok (.aload_n 0, 1) := by decide +kernel
theorem dX3_blank_50 : decode cX3_blank 50 = .ok (.iload_n 1, 1) := by decide +kernel
theorem dX3_blank_51 : decode cX3_blank 51 = .ok (.iload 4, 2) := by decide +kernel
theorem dX3_blank_53 : decode cX3_blank 53 = .ok (.invokevirtual 46, 3) := by decide +kernel
theorem dX3_blank_56 : decode cX3_blank 56 = .ok (.return_, 1) := by decide +kernel
theorem dX3_dropWritten_0 : decode cX3_dropWritten 0 = .ok (.iconst 0, 1) := by decide +kernel
theorem dX3_dropWritten_1 : decode cX3_dropWritten 1 = .ok (.istore_n 3, 1) := by decide +kernel
theorem dX3_dropWritten_2 : decode cX3_dropWritten 2 = .ok (.iconst 0, 1) := by decide +kernel
theorem dX3_dropWritten_3 : decode cX3_dropWritten 3 = .ok (.istore 4, 2) := by decide +kernel
theorem dX3_dropWritten_5 : decode cX3_dropWritten 5 = .ok (.iload 4, 2) := by decide +kernel
theorem dX3_dropWritten_7 : decode cX3_dropWritten 7 = .ok (.aload_n 0, 1) := by decide +kernel
theorem dX3_dropWritten_8 : decode cX3_dropWritten 8 = .ok (.getfield 38, 3) := by decide +kernel
theorem dX3_dropWritten_11 : decode cX3_dropWritten 11 = .ok (.if_icmp .ge 54, 3) := by decide +kernel
theorem dX3_dropWritten_14 : decode cX3_dropWritten 14 = .ok (.iload 4, 2) := by decide +kernel
theorem dX3_dropWritten_16 : decode cX3_dropWritten 16 = .ok (.bipush 64, 2) := by decide +kernel
theorem dX3_dropWritten_18 : decode cX3_dropWritten 18 = .ok (.if_icmp .ge 47, 3) := by decide +kernel
theorem dX3_dropWritten_21 : decode cX3_dropWritten 21 = .ok (.aload_n 0, 1) := by decide +kernel
theorem dX3_dropWritten_22 : decode cX3_dropWritten 22 = .ok (.getfield 19, 3) := by decide +kernel
theorem dX3_dropWritten_25 : decode cX3_dropWritten 25 = .ok (.iload 4, 2) := by decide +kernel
theorem dX3_dropWritten_27 : decode cX3_dropWritten 27 = .ok (.iaload, 1) := by decide +kernel
theorem dX3_dropWritten_28 : decode cX3_dropWritten 28 = .ok (.iload_n 1, 1) := by decide +kernel
theorem dX3_dropWritten_29 : decode cX3_dropWritten 29 = .ok (.if_icmp .lt 14, 3) := by decide +kernel
theorem dX3_dropWritten_32 : decode cX3_dropWritten 32 = .ok (.aload_n 0, 1) := by decide +kernel
theorem dX3_dropWritten_33 : decode cX3_dropWritten 33 = .ok (.getfield 19, 3) := by decide +kernel
theorem dX3_dropWritten_36 : decode cX3_dropWritten 36 = .ok (.iload 4, 2) := by decide +kernel
theorem dX3_dropWritten_38 : decode cX3_dropWritten 38 = .ok (.iaload, 1) := by decide +kernel
theorem dX3_dropWritten_39 : decode cX3_dropWritten 39 = .ok (.iload_n 2, 1) := by decide +kernel
theorem dX3_dropWritten_40 : decode cX3_dropWritten 40 = .ok (.if_icmp .lt 19, 3) := by decide +kernel
theorem dX3_dropWritten_43 : decode cX3_dropWritten 43 = .ok (.aload_n 0, 1) := by decide +kernel
theorem dX3_dropWritten_44 : decode cX3_dropWritten 44 = .ok (.getfield 19, 3) := by decide +kernel
theorem dX3_dropWritten_47 : decode cX3_dropWritten 47 = .ok (.iload_n 3, 1) := by decide +kernel
theorem dX3_dropWritten_48 : decode cX3_dropWritten 48 = .ok (.aload_n 0, 1) := by decide +kernel
theorem dX3_dropWritten_49 : decode cX3_dropWritten 49 = .ok (.getfield 19, 3) := by decide +kernel
theorem dX3_dropWritten_52 : decode cX3_dropWritten 52 = .ok (.iload 4, 2) := by decide +kernel
theorem dX3_dropWritten_54 : decode cX3_dropWritten 54 = .ok (.iaload, 1) := by decide +kernel
theorem dX3_dropWritten_55 : decode cX3_dropWritten 55 = .ok (.iastore, 1) := by decide +kernel
theorem dX3_dropWritten_56 : decode cX3_dropWritten 56 = .ok (.iinc 3 1, 3) := by decide +kernel
theorem dX3_dropWritten_59 : decode cX3_dropWritten 59 = .ok (.iinc 4 1, 3) := by decide +kernel
theorem dX3_dropWritten_62 : decode cX3_dropWritten 62 = .ok (.goto (-57), 3) := by decide +kernel
theorem dX3_dropWritten_65 : decode cX3_dropWritten 65 = .ok (.aload_n 0, 1) := by decide +kernel
theorem dX3_dropWritten_66 : decode cX3_dropWritten 66 = .ok (.iload_n 3, 1) := by decide +kernel
theorem dX3_dropWritten_67 : decode cX3_dropWritten 67 = .ok (.putfield 38, 3) := by decide +kernel
theorem dX3_dropWritten_70 : decode cX3_dropWritten 70 = .ok (.return_, 1) := by decide +kernel
theorem dX3_addWrittenFirst_0 : decode cX3_addWrittenFirst 0 = .ok (.aload_n 0, 1) := by decide +kernel
theorem dX3_addWrittenFirst_1 : decode cX3_addWrittenFirst 1 = .ok (.getfield 38, 3) := by decide +kernel
theorem dX3_addWrittenFirst_4 : decode cX3_addWrittenFirst 4 = .ok (.bipush 64, 2) := by decide +kernel
theorem dX3_addWrittenFirst_6 : decode cX3_addWrittenFirst 6 = .ok (.if_icmp .lt 4, 3) := by decide +kernel
theorem dX3_addWrittenFirst_9 : decode cX3_addWrittenFirst 9 = .ok (.return_, 1) := by decide +kernel
theorem dX3_addWrittenFirst_10 : decode cX3_addWrittenFirst 10 = .ok (.aload_n 0, 1) := by decide +kernel
theorem dX3_addWrittenFirst_11 : decode cX3_addWrittenFirst 11 = .ok (.getfield 38, 3) := by decide +kernel
theorem dX3_addWrittenFirst_14 : decode cX3_addWrittenFirst 14 = .ok (.istore_n 2, 1) := by decide +kernel
theorem dX3_addWrittenFirst_15 : decode cX3_addWrittenFirst 15 = .ok (.iload_n 2, 1) := by decide +kernel
theorem dX3_addWrittenFirst_16 : decode cX3_addWrittenFirst 16 = .ok (.ifCond .le 23, 3) := by decide +kernel
theorem dX3_addWrittenFirst_19 : decode cX3_addWrittenFirst 19 = .ok (.aload_n 0, 1) := by decide +kernel
theorem dX3_addWrittenFirst_20 : decode cX3_addWrittenFirst 20 = .ok (.getfield 19, 3) := by decide +kernel
theorem dX3_addWrittenFirst_23 : decode cX3_addWrittenFirst 23 = .ok (.iload_n 2, 1) := by decide +kernel
theorem dX3_addWrittenFirst_24 : decode cX3_addWrittenFirst 24 = .ok (.aload_n 0, 1) := by decide +kernel
theorem dX3_addWrittenFirst_25 : decode cX3_addWrittenFirst 25 = .ok (.getfield 19, 3) := by decide +kernel
theorem dX3_addWrittenFirst_28 : decode cX3_addWrittenFirst 28 = .ok (.iload_n 2, 1) := by decide +kernel
theorem dX3_addWrittenFirst_29 : decode cX3_addWrittenFirst 29 = .ok (.iconst 1, 1) := by decide +kernel
theorem dX3_addWrittenFirst_30 : decode cX3_addWrittenFirst 30 = .ok (.isub, 1) := by decide +kernel
theorem dX3_addWrittenFirst_31 : decode cX3_addWrittenFirst 31 = .ok (.iaload, 1) := by decide +kernel
theorem dX3_addWrittenFirst_32 : decode cX3_addWrittenFirst 32 = .ok (.iastore, 1) := by decide +kernel
theorem dX3_addWrittenFirst_33 : decode cX3_addWrittenFirst 33 = .ok (.iinc 2 (-1), 3) := by decide +kernel
theorem dX3_addWrittenFirst_36 : decode cX3_addWrittenFirst 36 = .ok (.goto (-21), 3) := by decide +kernel
theorem dX3_addWrittenFirst_39 : decode cX3_addWrittenFirst 39 = .ok (.aload_n 0, 1) := by decide +kernel
theorem dX3_addWrittenFirst_40 : decode cX3_addWrittenFirst 40 = .ok (.getfield 19, 3) := by decide +kernel
theorem dX3_addWrittenFirst_43 : decode cX3_addWrittenFirst 43 = .ok (.iconst 0, 1) := by decide +kernel
theorem dX3_addWrittenFirst_44 : decode cX3_addWrittenFirst 44 = .ok (.iload_n 1, 1) := by decide +kernel
theorem dX3_addWrittenFirst_45 : decode cX3_addWrittenFirst 45 = .ok (.iastore, 1) := by decide +kernel
theorem dX3_addWrittenFirst_46 : decode cX3_addWrittenFirst 46 = .ok (.aload_n 0, 1) := by decide +kernel
theorem dX3_addWrittenFirst_47 : decode cX3_addWrittenFirst 47 = .ok (.dup, 1) := by decide +kernel
theorem dX3_addWrittenFirst_48 : decode cX3_addWrittenFirst 48 = .ok (.getfield 38, 3) := by decide +kernel
theorem dX3_addWrittenFirst_51 : decode cX3_addWrittenFirst 51 = .ok (.iconst 1, 1) := by decide +kernel
theorem dX3_addWrittenFirst_52 : decode cX3_addWrittenFirst 52 = .ok (.iadd, 1) := by decide +kernel
theorem dX3_addWrittenFirst_53 : decode cX3_addWrittenFirst 53 = .ok (.putfield 38, 3) := by decide +kernel
theorem dX3_addWrittenFirst_56 : decode cX3_addWrittenFirst 56 = .ok (.return_, 1) := by decide +kernel
theorem dX4_init_0 : decode cX4_init 0 = .ok (.aload_n 0, 1) := by decide +kernel
theorem dX4_init_1 : decode cX4_init 1 = .ok (.invokespecial 3, 3) := by decide +kernel
theorem dX4_init_4 : decode cX4_init 4 = .ok (.aload_n 0, 1) := by decide +kernel
theorem dX4_init_5 : decode cX4_init 5 = .ok (.iconst 2, 1) := by decide +kernel
theorem dX4_init_6 : decode cX4_init 6 = .ok (.newarray .int, 2) := by decide +kernel
theorem dX4_init_8 : decode cX4_init 8 = .ok (.putfield 9, 3) := by decide +kernel
theorem dX4_init_11 : decode cX4_init 11 = .ok (.aload_n 0, 1) := by decide +kernel
theorem dX4_init_12 : decode cX4_init 12 = .ok (.iconst 2, 1) := by decide +kernel
theorem dX4_init_13 : decode cX4_init 13 = .ok (.newarray .int, 2) := by decide +kernel
theorem dX4_init_15 : decode cX4_init 15 = .ok (.putfield 15, 3) := by decide +kernel
theorem dX4_init_18 : decode cX4_init 18 = .ok (.return_, 1) := by decide +kernel
theorem dX4_clear_0 : decode cX4_clear 0 = .ok (.aload_n 0, 1) := by decide +kernel
theorem dX4_clear_1 : decode cX4_clear 1 = .ok (.iconst 0, 1) := by decide +kernel
theorem dX4_clear_2 : decode cX4_clear 2 = .ok (.putfield 18, 3) := by decide +kernel
theorem dX4_clear_5 : decode cX4_clear 5 = .ok (.aload_n 0, 1) := by decide +kernel
theorem dX4_clear_6 : decode cX4_clear 6 = .ok (.iconst 0, 1) := by decide +kernel
theorem dX4_clear_7 : decode cX4_clear 7 = .ok (.putfield 22, 3) := by decide +kernel
theorem dX4_clear_10 : decode cX4_clear 10 = .ok (.return_, 1) := by decide +kernel
theorem dX4_size_0 : decode cX4_size 0 = .ok (.aload_n 0, 1) := by decide +kernel
theorem dX4_size_1 : decode cX4_size 1 = .ok (.getfield 18, 3) := by decide +kernel
theorem dX4_size_4 : decode cX4_size 4 = .ok (.ireturn, 1) := by decide +kernel
theorem dX4_isFull_0 : decode cX4_isFull 0 = .ok (.aload_n 0, 1) := by decide +kernel
theorem dX4_isFull_1 : decode cX4_isFull 1 = .ok (.getfield 18, 3) := by decide +kernel
theorem dX4_isFull_4 : decode cX4_isFull 4 = .ok (.iconst 2, 1) := by decide +kernel
theorem dX4_isFull_5 : decode cX4_isFull 5 = .ok (.if_icmp .lt 7, 3) := by decide +kernel
theorem dX4_isFull_8 : decode cX4_isFull 8 = .ok (.iconst 1, 1) := by decide +kernel
theorem dX4_isFull_9 : decode cX4_isFull 9 = .ok (.goto 4, 3) := by decide +kernel
theorem dX4_isFull_12 : decode cX4_isFull 12 = .ok (.iconst 0, 1) := by decide +kernel
theorem dX4_isFull_13 : decode cX4_isFull 13 = .ok (.ireturn, 1) := by decide +kernel
theorem dX4_append_0 : decode cX4_append 0 = .ok (.aload_n 0, 1) := by decide +kernel
theorem dX4_append_1 : decode cX4_append 1 = .ok (.getfield 18, 3) := by decide +kernel
theorem dX4_append_4 : decode cX4_append 4 = .ok (.ifCond .lt 11, 3) := by decide +kernel
theorem dX4_append_7 : decode cX4_append 7 = .ok (.aload_n 0, 1) := by decide +kernel
theorem dX4_append_8 : decode cX4_append 8 = .ok (.getfield 18, 3) := by decide +kernel
theorem dX4_append_11 : decode cX4_append 11 = .ok (.iconst 2, 1) := by decide +kernel
theorem dX4_append_12 : decode cX4_append 12 = .ok (.if_icmp .lt 4, 3) := by decide +kernel
theorem dX4_append_15 : decode cX4_append 15 = .ok (.return_, 1) := by decide +kernel
theorem dX4_append_16 : decode cX4_append 16 = .ok (.aload_n 0, 1) := by decide +kernel
theorem dX4_append_17 : decode cX4_append 17 = .ok (.getfield 9, 3) := by decide +kernel
theorem dX4_append_20 : decode cX4_append 20 = .ok (.aload_n 0, 1) := by decide +kernel
theorem dX4_append_21 : decode cX4_append 21 = .ok (.getfield 18, 3) := by decide +kernel
theorem dX4_append_24 : decode cX4_append 24 = .ok (.iload_n 1, 1) := by decide +kernel
theorem dX4_append_25 : decode cX4_append 25 = .ok (.iastore, 1) := by decide +kernel
theorem dX4_append_26 : decode cX4_append 26 = .ok (.aload_n 0, 1) := by decide +kernel
theorem dX4_append_27 : decode cX4_append 27 = .ok (.getfield 15, 3) := by decide +kernel
theorem dX4_append_30 : decode cX4_append 30 = .ok (.aload_n 0, 1) := by decide +kernel
theorem dX4_append_31 : decode cX4_append 31 = .ok (.getfield 18, 3) := by decide +kernel
theorem dX4_append_34 : decode cX4_append 34 = .ok (.iload_n 2, 1) := by decide +kernel
theorem dX4_append_35 : decode cX4_append 35 = .ok (.iastore, 1) := by decide +kernel
theorem dX4_append_36 : decode cX4_append 36 = .ok (.aload_n 0, 1) := by decide +kernel
theorem dX4_append_37 : decode cX4_append 37 = .ok (.dup, 1) := by decide +kernel
theorem dX4_append_38 : decode cX4_append 38 = .ok (.getfield 18, 3) := by decide +kernel
theorem dX4_append_41 : decode cX4_append 41 = .ok (.iconst 1, 1) := by decide +kernel
theorem dX4_append_42 : decode cX4_append 42 = .ok (.iadd, 1) := by decide +kernel
theorem dX4_append_43 : decode cX4_append 43 = .ok (.putfield 18, 3) := by decide +kernel
theorem dX4_append_46 : decode cX4_append 46 = .ok (.return_, 1) := by decide +kernel
theorem dX4_tellOf_0 : decode cX4_tellOf 0 = .ok (.iload_n 1, 1) := by decide +kernel
theorem dX4_tellOf_1 : decode cX4_tellOf 1 = .ok (.ifCond .lt 16, 3) := by decide +kernel
theorem dX4_tellOf_4 : decode cX4_tellOf 4 = .ok (.iload_n 1, 1) := by decide +kernel
theorem dX4_tellOf_5 : decode cX4_tellOf 5 = .ok (.aload_n 0, 1) := by decide +kernel
theorem dX4_tellOf_6 : decode cX4_tellOf 6 = .ok (.getfield 18, 3) := by decide +kernel
theorem dX4_tellOf_9 : decode cX4_tellOf 9 = .ok (.if_icmp .ge 8, 3) := by decide +kernel
theorem dX4_tellOf_12 : decode cX4_tellOf 12 = .ok (.iload_n 1, 1) := by decide +kernel
theorem dX4_tellOf_13 : decode cX4_tellOf 13 = .ok (.iconst 2, 1) := by decide +kernel
theorem dX4_tellOf_14 : decode cX4_tellOf 14 = .ok (.if_icmp .lt 6, 3) := by decide +kernel
theorem dX4_tellOf_17 : decode cX4_tellOf 17 = .ok (.bipush (-4), 2) := by decide +kernel
theorem dX4_tellOf_19 : decode cX4_tellOf 19 = .ok (.ireturn, 1) := by decide +kernel
theorem dX4_tellOf_20 : decode cX4_tellOf 20 = .ok (.iload_n 2, 1) := by decide +kernel
theorem dX4_tellOf_21 : decode cX4_tellOf 21 = .ok (.ifCond .ne 10, 3) := by decide +kernel
theorem dX4_tellOf_24 : decode cX4_tellOf 24 = .ok (.aload_n 0, 1) := by decide +kernel
theorem dX4_tellOf_25 : decode cX4_tellOf 25 = .ok (.getfield 9, 3) := by decide +kernel
theorem dX4_tellOf_28 : decode cX4_tellOf 28 = .ok (.iload_n 1, 1) := by decide +kernel
theorem dX4_tellOf_29 : decode cX4_tellOf 29 = .ok (.iaload, 1) := by decide +kernel
theorem dX4_tellOf_30 : decode cX4_tellOf 30 = .ok (.ireturn, 1) := by decide +kernel
theorem dX4_tellOf_31 : decode cX4_tellOf 31 = .ok (.iload_n 2, 1) := by decide +kernel
theorem dX4_tellOf_32 : decode cX4_tellOf 32 = .ok (.iconst 1, 1) := by decide +kernel
theorem dX4_tellOf_33 : decode cX4_tellOf 33 = .ok (.if_icmp .ne 10, 3) := by decide +kernel
theorem dX4_tellOf_36 : decode cX4_tellOf 36 = .ok (.aload_n 0, 1) := by decide +kernel
theorem dX4_tellOf_37 : decode cX4_tellOf 37 = .ok (.getfield 15, 3) := by decide +kernel
theorem dX4_tellOf_40 : decode cX4_tellOf 40 = .ok (.iload_n 1, 1) := by decide +kernel
theorem dX4_tellOf_41 : decode cX4_tellOf 41 = .ok (.iaload, 1) := by decide +kernel
theorem dX4_tellOf_42 : decode cX4_tellOf 42 = .ok (.ireturn, 1) := by decide +kernel
theorem dX4_tellOf_43 : decode cX4_tellOf 43 = .ok (.iload_n 1, 1) := by decide +kernel
theorem dX4_tellOf_44 : decode cX4_tellOf 44 = .ok (.ifCond .ne 10, 3) := by decide +kernel
theorem dX4_tellOf_47 : decode cX4_tellOf 47 = .ok (.aload_n 0, 1) := by decide +kernel
theorem dX4_tellOf_48 : decode cX4_tellOf 48 = .ok (.getfield 22, 3) := by decide +kernel
theorem dX4_tellOf_51 : decode cX4_tellOf 51 = .ok (.goto 4, 3) := by decide +kernel
theorem dX4_tellOf_54 : decode cX4_tellOf 54 = .ok (.iconst 0, 1) := by decide +kernel
theorem dX4_tellOf_55 : decode cX4_tellOf 55 = .ok (.ireturn, 1) := by decide +kernel
theorem dX4_firstHasBegun_0 : decode cX4_firstHasBegun 0 = .ok (.aload_n 0, 1) := by decide +kernel
theorem dX4_firstHasBegun_1 : decode cX4_firstHasBegun 1 = .ok (.getfield 18, 3) := by decide +kernel
theorem dX4_firstHasBegun_4 : decode cX4_firstHasBegun 4 = .ok (.ifCond .le 14, 3) := by decide +kernel
theorem dX4_firstHasBegun_7 : decode cX4_firstHasBegun 7 = .ok (.aload_n 0, 1) := by decide +kernel
theorem dX4_firstHasBegun_8 : decode cX4_firstHasBegun 8 = .ok (.getfield 22, 3) := by decide +kernel
theorem dX4_firstHasBegun_11 : decode cX4_firstHasBegun 11 = .ok (.ifCond .le 7, 3) := by decide +kernel
theorem dX4_firstHasBegun_14 : decode cX4_firstHasBegun 14 = .ok (.iconst 1, 1) := by decide +kernel
theorem dX4_firstHasBegun_15 : decode cX4_firstHasBegun 15 = .ok (.goto 4, 3) := by decide +kernel
theorem dX4_firstHasBegun_18 : decode cX4_firstHasBegun 18 = .ok (.iconst 0, 1) := by decide +kernel
theorem dX4_firstHasBegun_19 : decode cX4_firstHasBegun 19 = .ok (.ireturn, 1) := by decide +kernel
theorem dX4_tickFirst_0 : decode cX4_tickFirst 0 = .ok (.aload_n 0, 1) := by decide +kernel
theorem dX4_tickFirst_1 : decode cX4_tickFirst 1 = .ok (.dup, 1) := by decide +kernel
theorem dX4_tickFirst_2 : decode cX4_tickFirst 2 = .ok (.getfield 22, 3) := by decide +kernel
theorem dX4_tickFirst_5 : decode cX4_tickFirst 5 = .ok (.iconst 1, 1) := by decide +kernel
theorem dX4_tickFirst_6 : decode cX4_tickFirst 6 = .ok (.iadd, 1) := by decide +kernel
theorem dX4_tickFirst_7 : decode cX4_tickFirst 7 = .ok (.putfield 22, 3) := by decide +kernel
theorem dX4_tickFirst_10 : decode cX4_tickFirst 10 = .ok (.return_, 1) := by decide +kernel
theorem dX4_dropFirst_0 : decode cX4_dropFirst 0 = .ok (.iconst 1, 1) := by decide +kernel
theorem dX4_dropFirst_1 : decode cX4_dropFirst 1 = .ok (.istore_n 1, 1) := by decide +kernel
theorem dX4_dropFirst_2 : decode cX4_dropFirst 2 = .ok (.iload_n 1, 1) := by decide +kernel
theorem dX4_dropFirst_3 : decode cX4_dropFirst 3 = .ok (.aload_n 0, 1) := by decide +kernel
theorem dX4_dropFirst_4 : decode cX4_dropFirst 4 = .ok (.getfield 18, 3) := by decide +kernel
theorem dX4_dropFirst_7 : decode cX4_dropFirst 7 = .ok (.if_icmp .ge 42, 3) := by decide +kernel
theorem dX4_dropFirst_10 : decode cX4_dropFirst 10 = .ok (.iload_n 1, 1) := by decide +kernel
theorem dX4_dropFirst_11 : decode cX4_dropFirst 11 = .ok (.iconst 2, 1) := by decide +kernel
theorem dX4_dropFirst_12 : decode cX4_dropFirst 12 = .ok (.if_icmp .ge 37, 3) := by decide +kernel
theorem dX4_dropFirst_15 : decode cX4_dropFirst 15 = .ok (.aload_n 0, 1) := by decide +kernel
theorem dX4_dropFirst_16 : decode cX4_dropFirst 16 = .ok (.getfield 9, 3) := by decide +kernel
theorem dX4_dropFirst_19 : decode cX4_dropFirst 19 = .ok (.iload_n 1, 1) := by decide +kernel
theorem dX4_dropFirst_20 : decode cX4_dropFirst 20 = .ok (.iconst 1, 1) := by decide +kernel
theorem dX4_dropFirst_21 : decode cX4_dropFirst 21 = .ok (.isub, 1) := by decide +kernel
theorem dX4_dropFirst_22 : decode cX4_dropFirst 22 = .ok (.aload_n 0, 1) := by decide +kernel
theorem dX4_dropFirst_23 : decode cX4_dropFirst 23 = .ok (.getfield 9, 3) := by decide +kernel
theorem dX4_dropFirst_26 : decode cX4_dropFirst 26 = .ok (.iload_n 1, 1) := by decide +kernel
theorem dX4_dropFirst_27 : decode cX4_dropFirst 27 = .ok (.iaload, 1) := by decide +kernel
theorem dX4_dropFirst_28 : decode cX4_dropFirst 28 = .ok (.iastore, 1) := by decide +kernel
theorem dX4_dropFirst_29 : decode cX4_dropFirst 29 = .ok (.aload_n 0, 1) := by decide +kernel
theorem dX4_dropFirst_30 : decode cX4_dropFirst 30 = .ok (.getfield 15, 3) := by decide +kernel
theorem dX4_dropFirst_33 : decode cX4_dropFirst 33 = .ok (.iload_n 1, 1) := by decide +kernel
theorem dX4_dropFirst_34 : decode cX4_dropFirst 34 = .ok (.iconst 1, 1) := by decide +kernel
theorem dX4_dropFirst_35 : decode cX4_dropFirst 35 = .ok (.isub, 1) := by decide +kernel
theorem dX4_dropFirst_36 : decode cX4_dropFirst 36 = .ok (.aload_n 0, 1) := by decide +kernel
theorem dX4_dropFirst_37 : decode cX4_dropFirst 37 = .ok (.getfield 15, 3) := by decide +kernel
theorem dX4_dropFirst_40 : decode cX4_dropFirst 40 = .ok (.iload_n 1, 1) := by decide +kernel
theorem dX4_dropFirst_41 : decode cX4_dropFirst 41 = .ok (.iaload, 1) := by decide +kernel
theorem dX4_dropFirst_42 : decode cX4_dropFirst 42 = .ok (.iastore, 1) := by decide +kernel
theorem dX4_dropFirst_43 : decode cX4_dropFirst 43 = .ok (.iinc 1 1, 3) := by decide +kernel
theorem dX4_dropFirst_46 : decode cX4_dropFirst 46 = .ok (.goto (-44), 3) := by decide +kernel
theorem dX4_dropFirst_49 : decode cX4_dropFirst 49 = .ok (.aload_n 0, 1) := by decide +kernel
theorem dX4_dropFirst_50 : decode cX4_dropFirst 50 = .ok (.iconst 0, 1) := by decide +kernel
theorem dX4_dropFirst_51 : decode cX4_dropFirst 51 = .ok (.aload_n 0, 1) := by decide +kernel
theorem dX4_dropFirst_52 : decode cX4_dropFirst 52 = .ok (.getfield 18, 3) := by decide +kernel
theorem dX4_dropFirst_55 : decode cX4_dropFirst 55 = .ok (.iconst 1, 1) := by decide +kernel
theorem dX4_dropFirst_56 : decode cX4_dropFirst 56 = .ok (.isub, 1) := by decide +kernel
theorem dX4_dropFirst_57 : decode cX4_dropFirst 57 = .ok (.invokestatic 25, 3) := by decide +kernel
theorem dX4_dropFirst_60 : decode cX4_dropFirst 60 = .ok (.putfield 18, 3) := by decide +kernel
theorem dX4_dropFirst_63 : decode cX4_dropFirst 63 = .ok (.aload_n 0, 1) := by decide +kernel
theorem dX4_dropFirst_64 : decode cX4_dropFirst 64 = .ok (.iconst 0, 1) := by decide +kernel
theorem dX4_dropFirst_65 : decode cX4_dropFirst 65 = .ok (.putfield 22, 3) := by decide +kernel
theorem dX4_dropFirst_68 : decode cX4_dropFirst 68 = .ok (.return_, 1) := by decide +kernel
theorem dX5_init_0 : decode cX5_init 0 = .ok (.aload_n 0, 1) := by decide +kernel
theorem dX5_init_1 : decode cX5_init 1 = .ok (.invokespecial 1, 3) := by decide +kernel
theorem dX5_init_4 : decode cX5_init 4 = .ok (.return_, 1) := by decide +kernel
theorem dX5_clear_0 : decode cX5_clear 0 = .ok (.aload_n 0, 1) := by decide +kernel
theorem dX5_clear_1 : decode cX5_clear 1 = .ok (.iconst 0, 1) := by decide +kernel
theorem dX5_clear_2 : decode cX5_clear 2 = .ok (.putfield 7, 3) := by decide +kernel
theorem dX5_clear_5 : decode cX5_clear 5 = .ok (.aload_n 0, 1) := by decide +kernel
theorem dX5_clear_6 : decode cX5_clear 6 = .ok (.iconst 0, 1) := by decide +kernel
theorem dX5_clear_7 : decode cX5_clear 7 = .ok (.putfield 13, 3) := by decide +kernel
theorem dX5_clear_10 : decode cX5_clear 10 = .ok (.aload_n 0, 1) := by decide +kernel
theorem dX5_clear_11 : decode cX5_clear 11 = .ok (.iconst 0, 1) := by decide +kernel
theorem dX5_clear_12 : decode cX5_clear 12 = .ok (.putfield 16, 3) := by decide +kernel
theorem dX5_clear_15 : decode cX5_clear 15 = .ok (.aload_n 0, 1) := by decide +kernel
end
section
theorem dX5_clear_16 : decode cX5_clear 16 = .ok (.iconst 0, 1) := by decide +kernel
theorem dX5_clear_17 : decode cX5_clear 17 = .ok (.putfield 19, 3) := by decide +kernel
theorem dX5_clear_20 : decode cX5_clear 20 = .ok (.aload_n 0, 1) := by decide +kernel
theorem dX5_clear_21 : decode cX5_clear 21 = .ok (.iconst 0, 1) := by decide +kernel
theorem dX5_clear_22 : decode cX5_clear 22 = .ok (.putfield 23, 3) := by decide +kernel
theorem dX5_clear_25 : decode cX5_clear 25 = .ok (.return_, 1) := by decide +kernel
theorem dX5_expect_0 : decode cX5_expect 0 = .ok (.aload_n 0, 1) := by decide +kernel
theorem dX5_expect_1 : decode cX5_expect 1 = .ok (.iload_n 1, 1) := by decide +kernel
theorem dX5_expect_2 : decode cX5_expect 2 = .ok (.putfield 7, 3) := by decide +kernel
theorem dX5_expect_5 : decode cX5_expect 5 = .ok (.return_, 1) := by decide +kernel
theorem dX5_begin_0 : decode cX5_begin 0 = .ok (.aload_n 0, 1) := by decide +kernel
theorem dX5_begin_1 : decode cX5_begin 1 = .ok (.iload_n 1, 1) := by decide +kernel
theorem dX5_begin_2 : decode cX5_begin 2 = .ok (.putfield 13, 3) := by decide +kernel
theorem dX5_begin_5 : decode cX5_begin 5 = .ok (.aload_n 0, 1) := by decide +kernel
theorem dX5_begin_6 : decode cX5_begin 6 = .ok (.iload_n 2, 1) := by decide +kernel
theorem dX5_begin_7 : decode cX5_begin 7 = .ok (.ifCond .eq 7, 3) := by decide +kernel
theorem dX5_begin_10 : decode cX5_begin 10 = .ok (.iconst 1, 1) := by decide +kernel
theorem dX5_begin_11 : decode cX5_begin 11 = .ok (.goto 7, 3) := by decide +kernel
theorem dX5_begin_14 : decode cX5_begin 14 = .ok (.aload_n 0, 1) := by decide +kernel
theorem dX5_begin_15 : decode cX5_begin 15 = .ok (.getfield 7, 3) := by decide +kernel
theorem dX5_begin_18 : decode cX5_begin 18 = .ok (.putfield 16, 3) := by decide +kernel
theorem dX5_begin_21 : decode cX5_begin 21 = .ok (.aload_n 0, 1) := by decide +kernel
theorem dX5_begin_22 : decode cX5_begin 22 = .ok (.aload_n 0, 1) := by decide +kernel
theorem dX5_begin_23 : decode cX5_begin 23 = .ok (.getfield 16, 3) := by decide +kernel
theorem dX5_begin_26 : decode cX5_begin 26 = .ok (.ifCond .le 7, 3) := by decide +kernel
theorem dX5_begin_29 : decode cX5_begin 29 = .ok (.iconst 1, 1) := by decide +kernel
theorem dX5_begin_30 : decode cX5_begin 30 = .ok (.goto 4, 3) := by decide +kernel
theorem dX5_begin_33 : decode cX5_begin 33 = .ok (.iconst 0, 1) := by decide +kernel
theorem dX5_begin_34 : decode cX5_begin 34 = .ok (.putfield 19, 3) := by decide +kernel
theorem dX5_begin_37 : decode cX5_begin 37 = .ok (.aload_n 0, 1) := by decide +kernel
theorem dX5_begin_38 : decode cX5_begin 38 = .ok (.iconst 0, 1) := by decide +kernel
theorem dX5_begin_39 : decode cX5_begin 39 = .ok (.putfield 23, 3) := by decide +kernel
theorem dX5_begin_42 : decode cX5_begin 42 = .ok (.aload_n 0, 1) := by decide +kernel
theorem dX5_begin_43 : decode cX5_begin 43 = .ok (.iconst 0, 1) := by decide +kernel
theorem dX5_begin_44 : decode cX5_begin 44 = .ok (.putfield 7, 3) := by decide +kernel
theorem dX5_begin_47 : decode cX5_begin 47 = .ok (.return_, 1) := by decide +kernel
theorem dX5_next_0 : decode cX5_next 0 = .ok (.aload_n 0, 1) := by decide +kernel
theorem dX5_next_1 : decode cX5_next 1 = .ok (.getfield 13, 3) := by decide +kernel
theorem dX5_next_4 : decode cX5_next 4 = .ok (.ireturn, 1) := by decide +kernel
theorem dX5_advance_0 : decode cX5_advance 0 = .ok (.aload_n 0, 1) := by decide +kernel
theorem dX5_advance_1 : decode cX5_advance 1 = .ok (.dup, 1) := by decide +kernel
theorem dX5_advance_2 : decode cX5_advance 2 = .ok (.getfield 13, 3) := by decide +kernel
theorem dX5_advance_5 : decode cX5_advance 5 = .ok (.iconst 1, 1) := by decide +kernel
theorem dX5_advance_6 : decode cX5_advance 6 = .ok (.iadd, 1) := by decide +kernel
theorem dX5_advance_7 : decode cX5_advance 7 = .ok (.putfield 13, 3) := by decide +kernel
theorem dX5_advance_10 : decode cX5_advance 10 = .ok (.aload_n 0, 1) := by decide +kernel
theorem dX5_advance_11 : decode cX5_advance 11 = .ok (.dup, 1) := by decide +kernel
theorem dX5_advance_12 : decode cX5_advance 12 = .ok (.getfield 16, 3) := by decide +kernel
theorem dX5_advance_15 : decode cX5_advance 15 = .ok (.iconst 1, 1) := by decide +kernel
theorem dX5_advance_16 : decode cX5_advance 16 = .ok (.isub, 1) := by decide +kernel
theorem dX5_advance_17 : decode cX5_advance 17 = .ok (.putfield 16, 3) := by decide +kernel
theorem dX5_advance_20 : decode cX5_advance 20 = .ok (.return_, 1) := by decide +kernel
theorem dX5_isCounted_0 : decode cX5_isCounted 0 = .ok (.aload_n 0, 1) := by decide +kernel
theorem dX5_isCounted_1 : decode cX5_isCounted 1 = .ok (.getfield 19, 3) := by decide +kernel
theorem dX5_isCounted_4 : decode cX5_isCounted 4 = .ok (.ireturn, 1) := by decide +kernel
theorem dX5_left_0 : decode cX5_left 0 = .ok (.aload_n 0, 1) := by decide +kernel
theorem dX5_left_1 : decode cX5_left 1 = .ok (.getfield 16, 3) := by decide +kernel
theorem dX5_left_4 : decode cX5_left 4 = .ok (.ireturn, 1) := by decide +kernel
theorem dX5_isComplete_0 : decode cX5_isComplete 0 = .ok (.aload_n 0, 1) := by decide +kernel
theorem dX5_isComplete_1 : decode cX5_isComplete 1 = .ok (.getfield 19, 3) := by decide +kernel
theorem dX5_isComplete_4 : decode cX5_isComplete 4 = .ok (.ifCond .eq 14, 3) := by decide +kernel
theorem dX5_isComplete_7 : decode cX5_isComplete 7 = .ok (.aload_n 0, 1) := by decide +kernel
theorem dX5_isComplete_8 : decode cX5_isComplete 8 = .ok (.getfield 16, 3) := by decide +kernel
theorem dX5_isComplete_11 : decode cX5_isComplete 11 = .ok (.ifCond .gt 7, 3) := by decide +kernel
theorem dX5_isComplete_14 : decode cX5_isComplete 14 = .ok (.iconst 1, 1) := by decide +kernel
theorem dX5_isComplete_15 : decode cX5_isComplete 15 = .ok (.goto 4, 3) := by decide +kernel
theorem dX5_isComplete_18 : decode cX5_isComplete 18 = .ok (.iconst 0, 1) := by decide +kernel
theorem dX5_isComplete_19 : decode cX5_isComplete 19 = .ok (.ireturn, 1) := by decide +kernel
theorem dX5_isWrong_0 : decode cX5_isWrong 0 = .ok (.aload_n 0, 1) := by decide +kernel
theorem dX5_isWrong_1 : decode cX5_isWrong 1 = .ok (.getfield 23, 3) := by decide +kernel
theorem dX5_isWrong_4 : decode cX5_isWrong 4 = .ok (.ireturn, 1) := by decide +kernel
theorem dX5_spoil_0 : decode cX5_spoil 0 = .ok (.aload_n 0, 1) := by decide +kernel
theorem dX5_spoil_1 : decode cX5_spoil 1 = .ok (.iconst 1, 1) := by decide +kernel
theorem dX5_spoil_2 : decode cX5_spoil 2 = .ok (.putfield 23, 3) := by decide +kernel
theorem dX5_spoil_5 : decode cX5_spoil 5 = .ok (.return_, 1) := by decide +kernel
set_option maxRecDepth 20000 in
theorem ggX6_init_X3_init : GoodIn wsX6_init wsX3_init := goodIn_r _ [30, 31, 2, 3, 32, 33, 34, 35, 36, 131, 132, 133, 134, 135, 136] (by decide +kernel) (by decide +kernel)
set_option maxRecDepth 20000 in
theorem gX6_init_X3_init_n9 : GoodIn wsX6_init (wsX3_init) := ggX6_init_X3_init
set_option maxRecDepth 20000 in
theorem ggX6_init_X1_init : GoodIn wsX6_init wsX1_init := goodIn_r _ [39, 40, 2, 3, 41, 42, 43, 44, 32, 45, 154, 155] (by decide +kernel) (by decide +kernel)
set_option maxRecDepth 20000 in
theorem gX6_init_X1_init : GoodIn wsX6_init (wsX1_init) := ggX6_init_X1_init
set_option maxRecDepth 20000 in
theorem ggX6_init_X4_init : GoodIn wsX6_init wsX4_init := goodIn_r _ [47, 48, 2, 3, 32, 49, 50, 156, 157, 158, 159] (by decide +kernel) (by decide +kernel)
set_option maxRecDepth 20000 in
theorem gX6_init_X4_init_n30 : GoodIn wsX6_init (wsX4_init) := ggX6_init_X4_init
set_option maxRecDepth 20000 in
theorem ggX6_init_X0_init : GoodIn wsX6_init wsX0_init := goodIn_r _ [52, 53, 2, 3] (by decide +kernel) (by decide +kernel)
set_option maxRecDepth 20000 in
theorem gX6_init_X0_init_n37 : GoodIn wsX6_init (wsX0_init) := ggX6_init_X0_init
set_option maxRecDepth 20000 in
theorem ggX6_init_X5_init : GoodIn wsX6_init wsX5_init := goodIn_r _ [55, 56, 2, 3] (by decide +kernel) (by decide +kernel)
set_option maxRecDepth 20000 in
theorem gX6_init_X5_init_n44 : GoodIn wsX6_init (wsX5_init) := ggX6_init_X5_init
set_option maxRecDepth 20000 in
theorem ggX6_init_X2_init : GoodIn wsX6_init wsX2_init := goodIn_r _ [58, 59, 2, 3] (by decide +kernel) (by decide +kernel)
set_option maxRecDepth 20000 in
theorem gX6_init_X2_init_n51 : GoodIn wsX6_init (wsX2_init) := ggX6_init_X2_init
set_option maxRecDepth 20000 in
theorem ggX6_init_X6_renew : GoodIn wsX6_init wsX6_renew := goodIn_r _ [64, 65, 66, 7, 12, 67, 68, 69, 70, 71, 6, 72, 73, 74, 43, 75, 76, 42, 44, 77, 78, 79, 33, 80, 35, 81, 82, 83, 10, 84, 85, 86, 87, 88, 63, 89, 90, 91, 92, 93, 94, 28, 16, 20, 24, 95, 96, 97, 27, 98, 99, 100, 101, 102, 103, 104, 15, 105, 106, 107, 108, 109, 110, 19, 111, 112, 113, 114, 115, 116, 117, 118, 119, 120, 121, 122, 123, 124, 23, 125, 126, 127, 128, 129, 130, 137, 138, 139, 140, 141, 142, 143, 144, 145, 146, 147, 148, 149, 150, 151, 152, 153, 131, 132, 133, 134, 135, 136, 154, 155, 171, 172, 173, 156, 157, 158, 159, 160, 161, 162, 163, 164, 165, 166, 167, 168, 169, 170] (by decide +kernel) (by decide +kernel)
set_option maxRecDepth 20000 in
theorem gX6_init_X6_renew : GoodIn wsX6_init (wsV RX6 56 RX6 yX6_renew wsX6_renew) := goodIn_app (goodIn_of _ (by decide +kernel)) ggX6_init_X6_renew
theorem dX6_init_0 : decode cX6_init 0 = .ok (.aload_n 0, 1) := by decide +kernel
theorem dX6_init_1 : decode cX6_init 1 = .ok (.invokespecial 1, 3) := by decide +kernel
theorem dX6_init_4 : decode cX6_init 4 = .ok (.aload_n 0, 1) := by decide +kernel
theorem dX6_init_5 : decode cX6_init 5 = .ok (.new 7, 3) := by decide +kernel
theorem dX6_init_8 : decode cX6_init 8 = .ok (.dup, 1) := by decide +kernel
theorem dX6_init_9 : decode cX6_init 9 = .ok (.invokespecial 9, 3) := by decide +kernel
theorem dX6_init_12 : decode cX6_init 12 = .ok (.putfield 10, 3) := by decide +kernel
theorem dX6_init_15 : decode cX6_init 15 = .ok (.aload_n 0, 1) := by decide +kernel
theorem dX6_init_16 : decode cX6_init 16 = .ok (.new 16, 3) := by decide +kernel
theorem dX6_init_19 : decode cX6_init 19 = .ok (.dup, 1) := by decide +kernel
theorem dX6_init_20 : decode cX6_init 20 = .ok (.sipush 200, 3) := by decide +kernel
theorem dX6_init_23 : decode cX6_init 23 = .ok (.invokespecial 18, 3) := by decide +kernel
theorem dX6_init_26 : decode cX6_init 26 = .ok (.putfield 21, 3) := by decide +kernel
theorem dX6_init_29 : decode cX6_init 29 = .ok (.aload_n 0, 1) := by decide +kernel
theorem dX6_init_30 : decode cX6_init 30 = .ok (.new 16, 3) := by decide +kernel
theorem dX6_init_33 : decode cX6_init 33 = .ok (.dup, 1) := by decide +kernel
theorem dX6_init_34 : decode cX6_init 34 = .ok (.bipush 8, 2) := by decide +kernel
theorem dX6_init_36 : decode cX6_init 36 = .ok (.invokespecial 18, 3) := by decide +kernel
theorem dX6_init_39 : decode cX6_init 39 = .ok (.putfield 25, 3) := by decide +kernel
theorem dX6_init_42 : decode cX6_init 42 = .ok (.aload_n 0, 1) := by decide +kernel
theorem dX6_init_43 : decode cX6_init 43 = .ok (.new 28, 3) := by decide +kernel
theorem dX6_init_46 : decode cX6_init 46 = .ok (.dup, 1) := by decide +kernel
theorem dX6_init_47 : decode cX6_init 47 = .ok (.invokespecial 30, 3) := by decide +kernel
theorem dX6_init_50 : decode cX6_init 50 = .ok (.putfield 31, 3) := by decide +kernel
theorem dX6_init_53 : decode cX6_init 53 = .ok (.aload_n 0, 1) := by decide +kernel
theorem dX6_init_54 : decode cX6_init 54 = .ok (.new 35, 3) := by decide +kernel
theorem dX6_init_57 : decode cX6_init 57 = .ok (.dup, 1) := by decide +kernel
theorem dX6_init_58 : decode cX6_init 58 = .ok (.invokespecial 37, 3) := by decide +kernel
theorem dX6_init_61 : decode cX6_init 61 = .ok (.putfield 38, 3) := by decide +kernel
theorem dX6_init_64 : decode cX6_init 64 = .ok (.aload_n 0, 1) := by decide +kernel
theorem dX6_init_65 : decode cX6_init 65 = .ok (.new 42, 3) := by decide +kernel
theorem dX6_init_68 : decode cX6_init 68 = .ok (.dup, 1) := by decide +kernel
theorem dX6_init_69 : decode cX6_init 69 = .ok (.invokespecial 44, 3) := by decide +kernel
theorem dX6_init_72 : decode cX6_init 72 = .ok (.putfield 45, 3) := by decide +kernel
theorem dX6_init_75 : decode cX6_init 75 = .ok (.aload_n 0, 1) := by decide +kernel
theorem dX6_init_76 : decode cX6_init 76 = .ok (.new 49, 3) := by decide +kernel
theorem dX6_init_79 : decode cX6_init 79 = .ok (.dup, 1) := by decide +kernel
theorem dX6_init_80 : decode cX6_init 80 = .ok (.invokespecial 51, 3) := by decide +kernel
theorem dX6_init_83 : decode cX6_init 83 = .ok (.putfield 52, 3) := by decide +kernel
theorem dX6_init_86 : decode cX6_init 86 = .ok (.aload_n 0, 1) := by decide +kernel
theorem dX6_init_87 : decode cX6_init 87 = .ok (.bipush 32, 2) := by decide +kernel
theorem dX6_init_89 : decode cX6_init 89 = .ok (.iconst 4, 1) := by decide +kernel
theorem dX6_init_90 : decode cX6_init 90 = .ok (.iconst 2, 1) := by decide +kernel
theorem dX6_init_91 : decode cX6_init 91 = .ok (.sipush 1000, 3) := by decide +kernel
theorem dX6_init_94 : decode cX6_init 94 = .ok (.invokevirtual 56, 3) := by decide +kernel
theorem dX6_init_97 : decode cX6_init 97 = .ok (.return_, 1) := by decide +kernel
set_option maxRecDepth 20000 in
theorem ggX6_make_X6_isOutside : GoodIn wsX6_make wsX6_isOutside := goodIn_r _ [5] (by decide +kernel) (by decide +kernel)
set_option maxRecDepth 20000 in
theorem gX6_make_X6_isOutside : GoodIn wsX6_make (va_wsS RX6 60 yX6_isOutside wsX6_isOutside) := goodIn_app (goodIn_of _ (by decide +kernel)) ggX6_make_X6_isOutside
set_option maxRecDepth 20000 in
theorem ggX6_make_X6_renew : GoodIn wsX6_make wsX6_renew := goodIn_r _ [9, 10, 11, 12, 13, 14, 15, 16, 17, 18, 19, 20, 21, 22, 23, 24, 25, 26, 27, 28, 29, 30, 31, 32, 33, 34, 35, 36, 37, 38, 39, 40, 41, 42, 4, 43, 44, 45, 46, 47, 48, 49, 50, 51, 52, 53, 54, 55, 56, 57, 58, 59, 60, 61, 62, 63, 64, 65, 66, 67, 68, 69, 70, 71, 72, 73, 74, 75, 76, 77, 78, 79, 80, 81, 82, 83, 84, 85, 86, 87, 88, 89, 90, 91, 92, 93, 94, 95, 96, 97, 98, 99, 100, 101, 102, 103, 104, 105, 106, 107, 108, 109, 110, 111, 112, 113, 114, 115, 116, 117, 118, 119, 120, 121, 122, 123, 124, 125, 126, 127, 128, 129, 130, 131, 132, 133, 134, 135] (by decide +kernel) (by decide +kernel)
set_option maxRecDepth 20000 in
theorem gX6_make_X6_renew : GoodIn wsX6_make (wsV RX6 56 RX6 yX6_renew wsX6_renew) := goodIn_app (goodIn_of _ (by decide +kernel)) ggX6_make_X6_renew
theorem dX6_make_0 : decode cX6_make 0 = .ok (.iload_n 1, 1) := by decide +kernel
theorem dX6_make_1 : decode cX6_make 1 = .ok (.iconst 4, 1) := by decide +kernel
theorem dX6_make_2 : decode cX6_make 2 = .ok (.bipush 64, 2) := by decide +kernel
theorem dX6_make_4 : decode cX6_make 4 = .ok (.invokestatic 60, 3) := by decide +kernel
theorem dX6_make_7 : decode cX6_make 7 = .ok (.ifCond .ne 13, 3) := by decide +kernel
theorem dX6_make_10 : decode cX6_make 10 = .ok (.iload_n 2, 1) := by decide +kernel
theorem dX6_make_11 : decode cX6_make 11 = .ok (.iconst 1, 1) := by decide +kernel
theorem dX6_make_12 : decode cX6_make 12 = .ok (.bipush 8, 2) := by decide +kernel
theorem dX6_make_14 : decode cX6_make 14 = .ok (.invokestatic 60, 3) := by decide +kernel
theorem dX6_make_17 : decode cX6_make 17 = .ok (.ifCond .eq 5, 3) := by decide +kernel
theorem dX6_make_20 : decode cX6_make 20 = .ok (.iconst (-1), 1) := by decide +kernel
theorem dX6_make_21 : decode cX6_make 21 = .ok (.ireturn, 1) := by decide +kernel
theorem dX6_make_22 : decode cX6_make 22 = .ok (.iload_n 3, 1) := by decide +kernel
theorem dX6_make_23 : decode cX6_make 23 = .ok (.iconst 0, 1) := by decide +kernel
theorem dX6_make_24 : decode cX6_make 24 = .ok (.bipush 9, 2) := by decide +kernel
theorem dX6_make_26 : decode cX6_make 26 = .ok (.invokestatic 60, 3) := by decide +kernel
theorem dX6_make_29 : decode cX6_make 29 = .ok (.ifCond .ne 14, 3) := by decide +kernel
theorem dX6_make_32 : decode cX6_make 32 = .ok (.iload 4, 2) := by decide +kernel
theorem dX6_make_34 : decode cX6_make 34 = .ok (.iconst 0, 1) := by decide +kernel
theorem dX6_make_35 : decode cX6_make 35 = .ok (.ldc 64, 2) := by decide +kernel
theorem dX6_make_37 : decode cX6_make 37 = .ok (.invokestatic 60, 3) := by decide +kernel
theorem dX6_make_40 : decode cX6_make 40 = .ok (.ifCond .eq 5, 3) := by decide +kernel
theorem dX6_make_43 : decode cX6_make 43 = .ok (.iconst (-1), 1) := by decide +kernel
theorem dX6_make_44 : decode cX6_make 44 = .ok (.ireturn, 1) := by decide +kernel
theorem dX6_make_45 : decode cX6_make 45 = .ok (.aload_n 0, 1) := by decide +kernel
theorem dX6_make_46 : decode cX6_make 46 = .ok (.iload_n 1, 1) := by decide +kernel
theorem dX6_make_47 : decode cX6_make 47 = .ok (.iload_n 2, 1) := by decide +kernel
theorem dX6_make_48 : decode cX6_make 48 = .ok (.iload_n 3, 1) := by decide +kernel
theorem dX6_make_49 : decode cX6_make 49 = .ok (.iload 4, 2) := by decide +kernel
theorem dX6_make_51 : decode cX6_make 51 = .ok (.invokevirtual 56, 3) := by decide +kernel
theorem dX6_make_54 : decode cX6_make 54 = .ok (.iload_n 1, 1) := by decide +kernel
theorem dX6_make_55 : decode cX6_make 55 = .ok (.ireturn, 1) := by decide +kernel
set_option maxRecDepth 20000 in
theorem ggX6_power_X6_isOutside : GoodIn wsX6_power wsX6_isOutside := goodIn_r _ [4] (by decide +kernel) (by decide +kernel)
set_option maxRecDepth 20000 in
theorem gX6_power_X6_isOutside : GoodIn wsX6_power (va_wsS RX6 60 yX6_isOutside wsX6_isOutside) := goodIn_app (goodIn_of _ (by decide +kernel)) ggX6_power_X6_isOutside
set_option maxRecDepth 20000 in
theorem ggX6_power_X6_isPowered : GoodIn wsX6_power wsX6_isPowered := goodIn_r _ [8, 9, 127, 128, 129, 130, 131, 132, 133, 134, 135, 136, 137, 138, 139, 140, 141, 142, 143] (by decide +kernel) (by decide +kernel)
set_option maxRecDepth 20000 in
theorem gX6_power_X6_isPowered : GoodIn wsX6_power (wsV RX6 65 RX6 yX6_isPowered wsX6_isPowered) := goodIn_app (goodIn_of _ (by decide +kernel)) ggX6_power_X6_isPowered
set_option maxRecDepth 20000 in
theorem ggX6_power_X6_start : GoodIn wsX6_power wsX6_start := goodIn_r _ [13, 9, 14, 15, 16, 17, 18, 3, 19, 20, 21, 22, 23, 24, 25, 26, 27, 28, 29, 30, 31, 32, 33, 34, 35, 36, 37, 38, 39, 40, 41, 42, 43, 44, 45, 46, 47, 48, 49, 50, 51, 52, 53, 54, 55, 56, 57, 58, 59, 60, 61, 62, 63, 64, 65, 66, 67, 68, 69, 70, 71, 72, 127, 128, 129, 130, 131, 132, 133, 134, 135, 136, 137, 138, 139, 140, 141, 142, 143, 144, 145, 146, 147, 148, 149, 150, 151, 152, 153, 154, 155, 156, 157, 158, 159, 160, 161, 162, 163] (by decide +kernel) (by decide +kernel)
set_option maxRecDepth 20000 in
theorem gX6_power_X6_start : GoodIn wsX6_power (wsV RX6 69 RX6 yX6_start wsX6_start) := goodIn_app (goodIn_of _ (by decide +kernel)) ggX6_power_X6_start
set_option maxRecDepth 20000 in
theorem ggX6_power_X6_tearUnfinished : GoodIn wsX6_power wsX6_tearUnfinished := goodIn_r _ [76, 24, 77, 25, 78, 79, 80, 38, 81, 40, 41, 82, 83, 84, 85, 86, 87, 88, 89, 90, 91, 92, 93, 94, 95, 96, 97, 98, 99, 100, 101, 102, 103, 104, 105, 106, 107, 108, 109, 110, 111, 112, 113, 114, 115, 116, 45, 117, 48, 49, 118, 119, 120, 121, 47, 122, 123, 124, 125, 126, 127, 128, 129, 130, 131, 132, 133, 134, 135, 136, 137, 138, 139, 140, 141, 142, 143, 147, 148, 149, 150, 164, 165, 166, 167, 168, 169, 151, 152, 153, 154, 155, 156] (by decide +kernel) (by decide +kernel)
set_option maxRecDepth 20000 in
theorem gX6_power_X6_tearUnfinished : GoodIn wsX6_power (wsV RX6 72 RX6 yX6_tearUnfinished wsX6_tearUnfinished) := goodIn_app (goodIn_of _ (by decide +kernel)) ggX6_power_X6_tearUnfinished
set_option maxRecDepth 20000 in
theorem ggX6_power_X6_goDark : GoodIn wsX6_power wsX6_goDark := goodIn_r _ [19, 9, 20, 21, 22, 15, 23, 24, 25, 26, 27, 28, 29, 30, 31, 32, 33, 34, 35, 36, 37, 38, 39, 40, 41, 42, 43, 44, 45, 46, 47, 48, 49, 50, 51, 52, 53, 54, 55, 56, 57, 58, 59, 60, 61, 62, 63, 64, 65, 66, 127, 128, 129, 130, 131, 132, 133, 134, 135, 136, 137, 138, 139, 140, 141, 142, 143, 144, 145, 146, 147, 148, 149, 150, 151, 152, 153, 154, 155, 156, 157, 158, 159, 160, 161] (by decide +kernel) (by decide +kernel)
set_option maxRecDepth 20000 in
theorem gX6_power_X6_goDark : GoodIn wsX6_power (wsV RX6 75 RX6 yX6_goDark wsX6_goDark) := goodIn_app (goodIn_of _ (by decide +kernel)) ggX6_power_X6_goDark
theorem dX6_power_0 : decode cX6_power 0 = .ok (.iload_n 1, 1) := by decide +kernel
theorem dX6_power_1 : decode cX6_power 1 = .ok (.iconst 0, 1) := by decide +kernel
theorem dX6_power_2 : decode cX6_power 2 = .ok (.iconst 1, 1) := by decide +kernel
theorem dX6_power_3 : decode cX6_power 3 = .ok (.invokestatic 60, 3) := by decide +kernel
theorem dX6_power_6 : decode cX6_power 6 = .ok (.ifCond .eq 5, 3) := by decide +kernel
theorem dX6_power_9 : decode cX6_power 9 = .ok (.iconst (-1), 1) := by decide +kernel
theorem dX6_power_10 : decode cX6_power 10 = .ok (.ireturn, 1) := by decide +kernel
theorem dX6_power_11 : decode cX6_power 11 = .ok (.aload_n 0, 1) := by decide +kernel
theorem dX6_power_12 : decode cX6_power 12 = .ok (.invokevirtual 65, 3) := by decide +kernel
theorem dX6_power_15 : decode cX6_power 15 = .ok (.iload_n 1, 1) := by decide +kernel
theorem dX6_power_16 : decode cX6_power 16 = .ok (.iconst 1, 1) := by decide +kernel
theorem dX6_power_17 : decode cX6_power 17 = .ok (.if_icmp .ne 7, 3) := by decide +kernel
theorem dX6_power_20 : decode cX6_power 20 = .ok (.iconst 1, 1) := by decide +kernel
theorem dX6_power_21 : decode cX6_power 21 = .ok (.goto 4, 3) := by decide +kernel
theorem dX6_power_24 : decode cX6_power 24 = .ok (.iconst 0, 1) := by decide +kernel
theorem dX6_power_25 : decode cX6_power 25 = .ok (.if_icmp .ne 6, 3) := by decide +kernel
theorem dX6_power_28 : decode cX6_power 28 = .ok (.bipush (-2), 2) := by decide +kernel
theorem dX6_power_30 : decode cX6_power 30 = .ok (.ireturn, 1) := by decide +kernel
theorem dX6_power_31 : decode cX6_power 31 = .ok (.iload_n 1, 1) := by decide +kernel
theorem dX6_power_32 : decode cX6_power 32 = .ok (.iconst 1, 1) := by decide +kernel
theorem dX6_power_33 : decode cX6_power 33 = .ok (.if_icmp .ne 10, 3) := by decide +kernel
theorem dX6_power_36 : decode cX6_power 36 = .ok (.aload_n 0, 1) := by decide +kernel
theorem dX6_power_37 : decode cX6_power 37 = .ok (.invokevirtual 69, 3) := by decide +kernel
theorem dX6_power_40 : decode cX6_power 40 = .ok (.goto 11, 3) := by decide +kernel
theorem dX6_power_43 : decode cX6_power 43 = .ok (.aload_n 0, 1) := by decide +kernel
theorem dX6_power_44 : decode cX6_power 44 = .ok (.invokevirtual 72, 3) := by decide +kernel
theorem dX6_power_47 : decode cX6_power 47 = .ok (.aload_n 0, 1) := by decide +kernel
theorem dX6_power_48 : decode cX6_power 48 = .ok (.invokevirtual 75, 3) := by decide +kernel
theorem dX6_power_51 : decode cX6_power 51 = .ok (.iconst 1, 1) := by decide +kernel
theorem dX6_power_52 : decode cX6_power 52 = .ok (.ireturn, 1) := by decide +kernel
set_option maxRecDepth 20000 in
theorem ggX6_warm_X6_isOutside : GoodIn wsX6_warm wsX6_isOutside := goodIn_r _ [5] (by decide +kernel) (by decide +kernel)
set_option maxRecDepth 20000 in
theorem gX6_warm_X6_isOutside : GoodIn wsX6_warm (va_wsS RX6 60 yX6_isOutside wsX6_isOutside) := goodIn_app (goodIn_of _ (by decide +kernel)) ggX6_warm_X6_isOutside
theorem dX6_warm_0 : decode cX6_warm 0 = .ok (.iload_n 1, 1) := by decide +kernel
theorem dX6_warm_1 : decode cX6_warm 1 = .ok (.iconst 0, 1) := by decide +kernel
theorem dX6_warm_2 : decode cX6_warm 2 = .ok (.bipush 15, 2) := by decide +kernel
theorem dX6_warm_4 : decode cX6_warm 4 = .ok (.invokestatic 60, 3) := by decide +kernel
theorem dX6_warm_7 : decode cX6_warm 7 = .ok (.ifCond .eq 5, 3) := by decide +kernel
theorem dX6_warm_10 : decode cX6_warm 10 = .ok (.iconst (-1), 1) := by decide +kernel
theorem dX6_warm_11 : decode cX6_warm 11 = .ok (.ireturn, 1) := by decide +kernel
theorem dX6_warm_12 : decode cX6_warm 12 = .ok (.aload_n 0, 1) := by decide +kernel
theorem dX6_warm_13 : decode cX6_warm 13 = .ok (.getfield 78, 3) := by decide +kernel
theorem dX6_warm_16 : decode cX6_warm 16 = .ok (.istore_n 2, 1) := by decide +kernel
theorem dX6_warm_17 : decode cX6_warm 17 = .ok (.aload_n 0, 1) := by decide +kernel
theorem dX6_warm_18 : decode cX6_warm 18 = .ok (.iload_n 1, 1) := by decide +kernel
theorem dX6_warm_19 : decode cX6_warm 19 = .ok (.putfield 78, 3) := by decide +kernel
theorem dX6_warm_22 : decode cX6_warm 22 = .ok (.iload_n 2, 1) := by decide +kernel
theorem dX6_warm_23 : decode cX6_warm 23 = .ok (.ireturn, 1) := by decide +kernel
set_option maxRecDepth 20000 in
theorem ggX6_write_X6_isOutside : GoodIn wsX6_write wsX6_isOutside := goodIn_r _ [5] (by decide +kernel) (by decide +kernel)
set_option maxRecDepth 20000 in
theorem gX6_write_X6_isOutside : GoodIn wsX6_write (va_wsS RX6 60 yX6_isOutside wsX6_isOutside) := goodIn_app (goodIn_of _ (by decide +kernel)) ggX6_write_X6_isOutside
set_option maxRecDepth 20000 in
theorem ggX6_write_X1_append : GoodIn wsX6_write wsX1_append := goodIn_r _ [10, 11, 12, 34, 35] (by decide +kernel) (by decide +kernel)
set_option maxRecDepth 20000 in
theorem gX6_write_X1_append : GoodIn wsX6_write (wsV RX6 82 RX1 yX1_append wsX1_append) := goodIn_app (goodIn_of _ (by decide +kernel)) ggX6_write_X1_append
set_option maxRecDepth 20000 in
theorem ggX6_write_X1_length : GoodIn wsX6_write wsX1_length := goodIn_r _ [16, 11, 34, 35] (by decide +kernel) (by decide +kernel)
set_option maxRecDepth 20000 in
theorem gX6_write_X1_length : GoodIn wsX6_write (wsV RX6 86 RX1 yX1_length wsX1_length) := goodIn_app (goodIn_of _ (by decide +kernel)) ggX6_write_X1_length
theorem dX6_write_0 : decode cX6_write 0 = .ok (.iload_n 1, 1) := by decide +kernel
theorem dX6_write_1 : decode cX6_write 1 = .ok (.bipush 32, 2) := by decide +kernel
theorem dX6_write_3 : decode cX6_write 3 = .ok (.bipush 126, 2) := by decide +kernel
theorem dX6_write_5 : decode cX6_write 5 = .ok (.invokestatic 60, 3) := by decide +kernel
theorem dX6_write_8 : decode cX6_write 8 = .ok (.ifCond .eq 5, 3) := by decide +kernel
theorem dX6_write_11 : decode cX6_write 11 = .ok (.iconst (-1), 1) := by decide +kernel
theorem dX6_write_12 : decode cX6_write 12 = .ok (.ireturn, 1) := by decide +kernel
theorem dX6_write_13 : decode cX6_write 13 = .ok (.aload_n 0, 1) := by decide +kernel
theorem dX6_write_14 : decode cX6_write 14 = .ok (.getfield 21, 3) := by decide +kernel
theorem dX6_write_17 : decode cX6_write 17 = .ok (.iload_n 1, 1) := by decide +kernel
theorem dX6_write_18 : decode cX6_write 18 = .ok (.invokevirtual 82, 3) := by decide +kernel
theorem dX6_write_21 : decode cX6_write 21 = .ok (.ifCond .ne 6, 3) := by decide +kernel
theorem dX6_write_24 : decode cX6_write 24 = .ok (.bipush (-3), 2) := by decide +kernel
theorem dX6_write_26 : decode cX6_write 26 = .ok (.ireturn, 1) := by decide +kernel
theorem dX6_write_27 : decode cX6_write 27 = .ok (.aload_n 0, 1) := by decide +kernel
theorem dX6_write_28 : decode cX6_write 28 = .ok (.getfield 21, 3) := by decide +kernel
theorem dX6_write_31 : decode cX6_write 31 = .ok (.invokevirtual 86, 3) := by decide +kernel
theorem dX6_write_34 : decode cX6_write 34 = .ok (.ireturn, 1) := by decide +kernel
set_option maxRecDepth 20000 in
theorem ggX6_wipe_X1_length : GoodIn wsX6_wipe wsX1_length := goodIn_r _ [6, 7, 29, 30] (by decide +kernel) (by decide +kernel)
set_option maxRecDepth 20000 in
theorem gX6_wipe_X1_length : GoodIn wsX6_wipe (wsV RX6 86 RX1 yX1_length wsX1_length) := goodIn_app (goodIn_of _ (by decide +kernel)) ggX6_wipe_X1_length
set_option maxRecDepth 20000 in
theorem ggX6_wipe_X1_empty : GoodIn wsX6_wipe wsX1_empty := goodIn_r _ [11, 7, 29, 30] (by decide +kernel) (by decide +kernel)
set_option maxRecDepth 20000 in
theorem gX6_wipe_X1_empty : GoodIn wsX6_wipe (wsV RX6 90 RX1 yX1_empty wsX1_empty) := goodIn_app (goodIn_of _ (by decide +kernel)) ggX6_wipe_X1_empty
theorem dX6_wipe_0 : decode cX6_wipe 0 = .ok (.aload_n 0, 1) := by decide +kernel
theorem dX6_wipe_1 : decode cX6_wipe 1 = .ok (.getfield 21, 3) := by decide +kernel
theorem dX6_wipe_4 : decode cX6_wipe 4 = .ok (.invokevirtual 86, 3) := by decide +kernel
theorem dX6_wipe_7 : decode cX6_wipe 7 = .ok (.istore_n 1, 1) := by decide +kernel
theorem dX6_wipe_8 : decode cX6_wipe 8 = .ok (.aload_n 0, 1) := by decide +kernel
theorem dX6_wipe_9 : decode cX6_wipe 9 = .ok (.getfield 21, 3) := by decide +kernel
theorem dX6_wipe_12 : decode cX6_wipe 12 = .ok (.invokevirtual 90, 3) := by decide +kernel
theorem dX6_wipe_15 : decode cX6_wipe 15 = .ok (.iload_n 1, 1) := by decide +kernel
theorem dX6_wipe_16 : decode cX6_wipe 16 = .ok (.ireturn, 1) := by decide +kernel
set_option maxRecDepth 20000 in
theorem ggX6_check_X6_isNoCommand : GoodIn wsX6_check wsX6_isNoCommand := goodIn_r _ [4, 5, 6, 7, 3, 8] (by decide +kernel) (by decide +kernel)
set_option maxRecDepth 20000 in
theorem gX6_check_X6_isNoCommand : GoodIn wsX6_check (va_wsS RX6 93 yX6_isNoCommand wsX6_isNoCommand) := goodIn_app (goodIn_of _ (by decide +kernel)) ggX6_check_X6_isNoCommand
set_option maxRecDepth 20000 in
theorem ggX6_check_X6_commandCheck : GoodIn wsX6_check wsX6_commandCheck := goodIn_r _ [11, 12, 13, 14, 3, 15] (by decide +kernel) (by decide +kernel)
set_option maxRecDepth 20000 in
theorem gX6_check_X6_commandCheck : GoodIn wsX6_check (va_wsS RX6 97 yX6_commandCheck wsX6_commandCheck) := goodIn_app (goodIn_of _ (by decide +kernel)) ggX6_check_X6_commandCheck
theorem dX6_check_0 : decode cX6_check 0 = .ok (.iload_n 1, 1) := by decide +kernel
theorem dX6_check_1 : decode cX6_check 1 = .ok (.iload_n 2, 1) := by decide +kernel
theorem dX6_check_2 : decode cX6_check 2 = .ok (.invokestatic 93, 3) := by decide +kernel
theorem dX6_check_5 : decode cX6_check 5 = .ok (.ifCond .eq 5, 3) := by decide +kernel
theorem dX6_check_8 : decode cX6_check 8 = .ok (.iconst (-1), 1) := by decide +kernel
theorem dX6_check_9 : decode cX6_check 9 = .ok (.ireturn, 1) := by decide +kernel
theorem dX6_check_10 : decode cX6_check 10 = .ok (.iload_n 1, 1) := by decide +kernel
theorem dX6_check_11 : decode cX6_check 11 = .ok (.iload_n 2, 1) := by decide +kernel
theorem dX6_check_12 : decode cX6_check 12 = .ok (.invokestatic 97, 3) := by decide +kernel
theorem dX6_check_15 : decode cX6_check 15 = .ok (.ireturn, 1) := by decide +kernel
set_option maxRecDepth 20000 in
theorem ggX6_checkOf_X6_isOutside : GoodIn wsX6_checkOf wsX6_isOutside := goodIn_r _ [5] (by decide +kernel) (by decide +kernel)
set_option maxRecDepth 20000 in
theorem gX6_checkOf_X6_isOutside : GoodIn wsX6_checkOf (va_wsS RX6 60 yX6_isOutside wsX6_isOutside) := goodIn_app (goodIn_of _ (by decide +kernel)) ggX6_checkOf_X6_isOutside
set_option maxRecDepth 20000 in
theorem ggX6_checkOf_X6_contentCheck : GoodIn wsX6_checkOf wsX6_contentCheck := goodIn_r _ [8, 9, 10, 4, 11] (by decide +kernel) (by decide +kernel)
set_option maxRecDepth 20000 in
theorem gX6_checkOf_X6_contentCheck : GoodIn wsX6_checkOf (va_wsS RX6 101 yX6_contentCheck wsX6_contentCheck) := goodIn_app (goodIn_of _ (by decide +kernel)) ggX6_checkOf_X6_contentCheck
theorem dX6_checkOf_0 : decode cX6_checkOf 0 = .ok (.iload_n 1, 1) := by decide +kernel
theorem dX6_checkOf_1 : decode cX6_checkOf 1 = .ok (.iconst 0, 1) := by decide +kernel
theorem dX6_checkOf_2 : decode cX6_checkOf 2 = .ok (.ldc 64, 2) := by decide +kernel
theorem dX6_checkOf_4 : decode cX6_checkOf 4 = .ok (.invokestatic 60, 3) := by decide +kernel
theorem dX6_checkOf_7 : decode cX6_checkOf 7 = .ok (.ifCond .eq 5, 3) := by decide +kernel
theorem dX6_checkOf_10 : decode cX6_checkOf 10 = .ok (.iconst (-1), 1) := by decide +kernel
theorem dX6_checkOf_11 : decode cX6_checkOf 11 = .ok (.ireturn, 1) := by decide +kernel
theorem dX6_checkOf_12 : decode cX6_checkOf 12 = .ok (.iload_n 1, 1) := by decide +kernel
theorem dX6_checkOf_13 : decode cX6_checkOf 13 = .ok (.invokestatic 101, 3) := by decide +kernel
theorem dX6_checkOf_16 : decode cX6_checkOf 16 = .ok (.ireturn, 1) := by decide +kernel
set_option maxRecDepth 20000 in
theorem ggX6_send_X6_isNoCommand : GoodIn wsX6_send wsX6_isNoCommand := goodIn_r _ [4, 5, 6, 7, 3, 8] (by decide +kernel) (by decide +kernel)
set_option maxRecDepth 20000 in
theorem gX6_send_X6_isNoCommand : GoodIn wsX6_send (va_wsS RX6 93 yX6_isNoCommand wsX6_isNoCommand) := goodIn_app (goodIn_of _ (by decide +kernel)) ggX6_send_X6_isNoCommand
set_option maxRecDepth 20000 in
theorem ggX6_send_X6_isOutside : GoodIn wsX6_send wsX6_isOutside := goodIn_r _ [8] (by decide +kernel) (by decide +kernel)
set_option maxRecDepth 20000 in
theorem gX6_send_X6_isOutside : GoodIn wsX6_send (va_wsS RX6 60 yX6_isOutside wsX6_isOutside) := goodIn_app (goodIn_of _ (by decide +kernel)) ggX6_send_X6_isOutside
set_option maxRecDepth 20000 in
theorem ggX6_send_X6_hears : GoodIn wsX6_send wsX6_hears := goodIn_r _ [12, 13, 14, 15, 16, 3, 17, 18, 19, 20, 21, 22, 23, 24, 25, 26, 27, 28, 29, 30, 31, 32, 33, 34, 35, 36, 37, 38, 39, 40, 41, 42, 43, 44, 45, 46, 47, 48, 49, 50, 51, 52, 53, 364, 365, 366, 367, 368, 369, 370, 371, 372, 373, 374, 375, 376, 377, 378, 379, 380, 381, 382, 383, 384, 385, 386] (by decide +kernel) (by decide +kernel)
set_option maxRecDepth 20000 in
theorem gX6_send_X6_hears : GoodIn wsX6_send (wsV RX6 105 RX6 yX6_hears wsX6_hears) := goodIn_app (goodIn_of _ (by decide +kernel)) ggX6_send_X6_hears
set_option maxRecDepth 20000 in
theorem ggX6_send_X6_obey : GoodIn wsX6_send wsX6_obey := goodIn_r _ [57, 58, 59, 60, 61, 3, 62, 63, 64, 65, 66, 67, 68, 13, 69, 70, 71, 72, 73, 74, 75, 76, 77, 78, 79, 80, 81, 82, 83, 84, 85, 86, 87, 88, 89, 90, 91, 92, 93, 94, 95, 96, 97, 98, 99, 100, 101, 102, 103, 104, 105, 106, 107, 108, 109, 110, 45, 111, 112, 113, 114, 115, 116, 117, 118, 119, 120, 121, 122, 123, 124, 125, 126, 127, 18, 128, 35, 129, 130, 131, 132, 133, 30, 134, 135, 136, 137, 138, 139, 140, 141, 142, 143, 144, 145, 146, 147, 148, 149, 150, 151, 152, 153, 49, 50, 51, 47, 52, 53, 154, 155, 156, 157, 158, 159, 160, 161, 162, 163, 164, 165, 166, 167, 168, 169, 170, 171, 172, 173, 174, 175, 176, 177, 178, 179, 180, 181, 182, 183, 184, 185, 186, 187, 188, 189, 190, 191, 192, 193, 194, 195, 196, 197, 198, 199, 200, 201, 202, 26, 27, 28, 29, 203, 204, 205, 206, 207, 208, 209, 210, 211, 212, 213, 214, 215, 216, 217, 218, 219, 220, 221, 222, 223, 224, 225, 226, 227, 228, 229, 230, 231, 232, 233, 234, 235, 236, 237, 238, 239, 240, 241, 242, 243, 244, 245, 246, 247, 248, 249, 250, 251, 252, 253, 254, 255, 256, 257, 258, 259, 260, 261, 262, 263, 264, 265, 266, 267, 268, 269, 270, 271, 272, 48, 273, 274, 275, 276, 277, 278, 279, 280, 281, 282, 283, 284, 285, 286, 287, 288, 289, 290, 291, 292, 293, 294, 295, 296, 297, 298, 299, 300, 301, 302, 303, 304, 305, 306, 307, 308, 309, 310, 311, 312, 313, 314, 315, 316, 317, 318, 319, 320, 321, 322, 323, 324, 325, 326, 327, 328, 329, 330, 331, 332, 333, 334, 6, 7, 8, 335, 336, 337, 338, 339, 340, 341, 342, 343, 344, 345, 346, 347, 348, 349, 350, 351, 352, 353, 354, 355, 356, 357, 358, 359, 360, 361, 362, 363, 364, 365, 366, 367, 368, 369, 370, 371, 372, 373, 374, 375, 376, 377, 378, 379, 380, 387, 388, 389, 390, 391, 392, 393, 394, 395, 396, 381, 382, 383, 384, 385, 386, 397, 398, 399, 400, 401, 402, 403, 404, 405, 406] (by decide +kernel) (by decide +kernel)
set_option maxRecDepth 20000 in
theorem gX6_send_X6_obey : GoodIn wsX6_send (wsV RX6 108 RX6 yX6_obey wsX6_obey) := goodIn_app (goodIn_of _ (by decide +kernel)) ggX6_send_X6_obey
theorem dX6_send_0 : decode cX6_send 0 = .ok (.iload_n 1, 1) := by decide +kernel
theorem dX6_send_1 : decode cX6_send 1 = .ok (.iload_n 2, 1) := by decide +kernel
theorem dX6_send_2 : decode cX6_send 2 = .ok (.invokestatic 93, 3) := by decide +kernel
theorem dX6_send_5 : decode cX6_send 5 = .ok (.ifCond .ne 13, 3) := by decide +kernel
theorem dX6_send_8 : decode cX6_send 8 = .ok (.iload_n 3, 1) := by decide +kernel
theorem dX6_send_9 : decode cX6_send 9 = .ok (.iconst 0, 1) := by decide +kernel
theorem dX6_send_10 : decode cX6_send 10 = .ok (.bipush 127, 2) := by decide +kernel
theorem dX6_send_12 : decode cX6_send 12 = .ok (.invokestatic 60, 3) := by decide +kernel
theorem dX6_send_15 : decode cX6_send 15 = .ok (.ifCond .eq 5, 3) := by decide +kernel
theorem dX6_send_18 : decode cX6_send 18 = .ok (.iconst (-1), 1) := by decide +kernel
theorem dX6_send_19 : decode cX6_send 19 = .ok (.ireturn, 1) := by decide +kernel
theorem dX6_send_20 : decode cX6_send 20 = .ok (.aload_n 0, 1) := by decide +kernel
theorem dX6_send_21 : decode cX6_send 21 = .ok (.iload_n 1, 1) := by decide +kernel
theorem dX6_send_22 : decode cX6_send 22 = .ok (.iload_n 2, 1) := by decide +kernel
theorem dX6_send_23 : decode cX6_send 23 = .ok (.iload_n 3, 1) := by decide +kernel
theorem dX6_send_24 : decode cX6_send 24 = .ok (.invokevirtual 105, 3) := by decide +kernel
theorem dX6_send_27 : decode cX6_send 27 = .ok (.ifCond .eq 12, 3) := by decide +kernel
theorem dX6_send_30 : decode cX6_send 30 = .ok (.aload_n 0, 1) := by decide +kernel
theorem dX6_send_31 : decode cX6_send 31 = .ok (.iload_n 1, 1) := by decide +kernel
theorem dX6_send_32 : decode cX6_send 32 = .ok (.iload_n 2, 1) := by decide +kernel
theorem dX6_send_33 : decode cX6_send 33 = .ok (.invokevirtual 108, 3) := by decide +kernel
theorem dX6_send_36 : decode cX6_send 36 = .ok (.goto 5, 3) := by decide +kernel
theorem dX6_send_39 : decode cX6_send 39 = .ok (.bipush (-4), 2) := by decide +kernel
theorem dX6_send_41 : decode cX6_send 41 = .ok (.ireturn, 1) := by decide +kernel
set_option maxRecDepth 20000 in
theorem ggX6_tell_X6_isNoCommand : GoodIn wsX6_tell wsX6_isNoCommand := goodIn_r _ [4, 5, 6, 7, 3, 8] (by decide +kernel) (by decide +kernel)
set_option maxRecDepth 20000 in
theorem gX6_tell_X6_isNoCommand : GoodIn wsX6_tell (va_wsS RX6 93 yX6_isNoCommand wsX6_isNoCommand) := goodIn_app (goodIn_of _ (by decide +kernel)) ggX6_tell_X6_isNoCommand
set_option maxRecDepth 20000 in
theorem ggX6_tell_X6_commandCheck : GoodIn wsX6_tell wsX6_commandCheck := goodIn_r _ [11, 12, 13, 14, 3, 15] (by decide +kernel) (by decide +kernel)
set_option maxRecDepth 20000 in
theorem gX6_tell_X6_commandCheck : GoodIn wsX6_tell (va_wsS RX6 97 yX6_commandCheck wsX6_commandCheck) := goodIn_app (goodIn_of _ (by decide +kernel)) ggX6_tell_X6_commandCheck
set_option maxRecDepth 20000 in
theorem ggX6_tell_X6_hears : GoodIn wsX6_tell wsX6_hears := goodIn_r _ [19, 20, 21, 22, 23, 3, 24, 25, 9, 10, 11, 12, 13, 14, 15, 26, 27, 28, 29, 30, 31, 32, 33, 34, 35, 36, 37, 38, 39, 40, 41, 42, 43, 44, 45, 46, 47, 48, 49, 50, 51, 52, 53, 364, 365, 366, 367, 368, 369, 370, 371, 372, 373, 374, 375, 376, 377, 378, 379, 380, 381, 382, 383, 384, 385, 386] (by decide +kernel) (by decide +kernel)
set_option maxRecDepth 20000 in
theorem gX6_tell_X6_hears : GoodIn wsX6_tell (wsV RX6 105 RX6 yX6_hears wsX6_hears) := goodIn_app (goodIn_of _ (by decide +kernel)) ggX6_tell_X6_hears
set_option maxRecDepth 20000 in
theorem ggX6_tell_X6_obey : GoodIn wsX6_tell wsX6_obey := goodIn_r _ [57, 58, 59, 60, 61, 3, 62, 63, 64, 65, 66, 67, 68, 20, 69, 70, 71, 72, 73, 74, 75, 76, 77, 78, 79, 80, 81, 82, 83, 84, 85, 86, 87, 88, 89, 90, 91, 92, 93, 94, 95, 96, 97, 98, 99, 100, 101, 102, 103, 104, 105, 106, 107, 108, 109, 110, 45, 111, 112, 113, 114, 115, 116, 117, 118, 119, 120, 121, 122, 123, 124, 125, 126, 127, 25, 128, 35, 129, 130, 131, 132, 133, 30, 134, 135, 136, 137, 138, 139, 140, 141, 142, 143, 144, 145, 146, 147, 148, 149, 150, 151, 152, 153, 49, 50, 51, 47, 52, 53, 154, 155, 156, 157, 158, 159, 160, 161, 162, 163, 164, 165, 166, 167, 168, 169, 170, 171, 172, 173, 174, 175, 176, 177, 178, 179, 180, 181, 182, 183, 184, 185, 186, 187, 188, 189, 190, 191, 192, 193, 194, 195, 196, 197, 198, 199, 200, 201, 202, 26, 27, 28, 29, 203, 204, 205, 206, 207, 208, 209, 210, 211, 212, 213, 214, 215, 216, 217, 218, 219, 220, 221, 222, 223, 224, 225, 226, 227, 228, 229, 230, 231, 232, 233, 234, 235, 236, 237, 238, 239, 240, 241, 242, 243, 244, 245, 246, 247, 248, 249, 250, 251, 252, 253, 254, 255, 256, 257, 258, 259, 260, 261, 262, 263, 264, 265, 266, 267, 268, 269, 270, 271, 272, 48, 273, 274, 275, 276, 277, 278, 279, 280, 281, 282, 283, 284, 285, 286, 287, 288, 289, 290, 291, 292, 293, 294, 295, 296, 297, 298, 299, 300, 301, 302, 303, 304, 305, 306, 307, 308, 309, 310, 311, 312, 313, 314, 315, 316, 317, 318, 319, 320, 321, 322, 323, 324, 325, 326, 327, 328, 329, 330, 331, 332, 333, 334, 6, 7, 8, 335, 336, 337, 338, 339, 340, 341, 342, 343, 344, 345, 346, 347, 348, 349, 350, 351, 352, 353, 354, 355, 356, 357, 358, 359, 360, 361, 362, 363, 364, 365, 366, 367, 368, 369, 370, 371, 372, 373, 374, 375, 376, 377, 378, 379, 380, 387, 388, 389, 390, 391, 392, 393, 394, 395, 396, 381, 382, 383, 384, 385, 386, 397, 398, 399, 400, 401, 402, 403, 404, 405, 406] (by decide +kernel) (by decide +kernel)
set_option maxRecDepth 20000 in
theorem gX6_tell_X6_obey : GoodIn wsX6_tell (wsV RX6 108 RX6 yX6_obey wsX6_obey) := goodIn_app (goodIn_of _ (by decide +kernel)) ggX6_tell_X6_obey
theorem dX6_tell_0 : decode cX6_tell 0 = .ok (.iload_n 1, 1) := by decide +kernel
theorem dX6_tell_1 : decode cX6_tell 1 = .ok (.iload_n 2, 1) := by decide +kernel
theorem dX6_tell_2 : decode cX6_tell 2 = .ok (.invokestatic 93, 3) := by decide +kernel
theorem dX6_tell_5 : decode cX6_tell 5 = .ok (.ifCond .eq 5, 3) := by decide +kernel
theorem dX6_tell_8 : decode cX6_tell 8 = .ok (.iconst (-1), 1) := by decide +kernel
theorem dX6_tell_9 : decode cX6_tell 9 = .ok (.ireturn, 1) := by decide +kernel
theorem dX6_tell_10 : decode cX6_tell 10 = .ok (.aload_n 0, 1) := by decide +kernel
theorem dX6_tell_11 : decode cX6_tell 11 = .ok (.iload_n 1, 1) := by decide +kernel
theorem dX6_tell_12 : decode cX6_tell 12 = .ok (.iload_n 2, 1) := by decide +kernel
theorem dX6_tell_13 : decode cX6_tell 13 = .ok (.iload_n 1, 1) := by decide +kernel
theorem dX6_tell_14 : decode cX6_tell 14 = .ok (.iload_n 2, 1) := by decide +kernel
theorem dX6_tell_15 : decode cX6_tell 15 = .ok (.invokestatic 97, 3) := by decide +kernel
theorem dX6_tell_18 : decode cX6_tell 18 = .ok (.invokevirtual 105, 3) := by decide +kernel
theorem dX6_tell_21 : decode cX6_tell 21 = .ok (.ifCond .eq 12, 3) := by decide +kernel
theorem dX6_tell_24 : decode cX6_tell 24 = .ok (.aload_n 0, 1) := by decide +kernel
theorem dX6_tell_25 : decode cX6_tell 25 = .ok (.iload_n 1, 1) := by decide +kernel
theorem dX6_tell_26 : decode cX6_tell 26 = .ok (.iload_n 2, 1) := by decide +kernel
theorem dX6_tell_27 : decode cX6_tell 27 = .ok (.invokevirtual 108, 3) := by decide +kernel
theorem dX6_tell_30 : decode cX6_tell 30 = .ok (.goto 5, 3) := by decide +kernel
theorem dX6_tell_33 : decode cX6_tell 33 = .ok (.bipush (-4), 2) := by decide +kernel
theorem dX6_tell_35 : decode cX6_tell 35 = .ok (.ireturn, 1) := by decide +kernel
set_option maxRecDepth 20000 in
theorem ggX6_give_X6_isOutside : GoodIn wsX6_give wsX6_isOutside := goodIn_r _ [11] (by decide +kernel) (by decide +kernel)
set_option maxRecDepth 20000 in
theorem gX6_give_X6_isOutside : GoodIn wsX6_give (va_wsS RX6 60 yX6_isOutside wsX6_isOutside) := goodIn_app (goodIn_of _ (by decide +kernel)) ggX6_give_X6_isOutside
set_option maxRecDepth 20000 in
theorem ggX6_give_X5_isWrong : GoodIn wsX6_give wsX5_isWrong := goodIn_r _ [16, 17, 102, 103, 104, 105, 106] (by decide +kernel) (by decide +kernel)
set_option maxRecDepth 20000 in
theorem gX6_give_X5_isWrong : GoodIn wsX6_give (wsV RX6 114 RX5 yX5_isWrong wsX5_isWrong) := goodIn_app (goodIn_of _ (by decide +kernel)) ggX6_give_X5_isWrong
set_option maxRecDepth 20000 in
theorem ggX6_give_X5_isComplete : GoodIn wsX6_give wsX5_isComplete := goodIn_r _ [21, 22, 23, 102, 103, 104, 105, 106] (by decide +kernel) (by decide +kernel)
set_option maxRecDepth 20000 in
theorem gX6_give_X5_isComplete : GoodIn wsX6_give (wsV RX6 117 RX5 yX5_isComplete wsX5_isComplete) := goodIn_app (goodIn_of _ (by decide +kernel)) ggX6_give_X5_isComplete
set_option maxRecDepth 20000 in
theorem ggX6_give_X5_next : GoodIn wsX6_give wsX5_next := goodIn_r _ [27, 28, 102, 103, 104, 105, 106] (by decide +kernel) (by decide +kernel)
set_option maxRecDepth 20000 in
theorem gX6_give_X5_next : GoodIn wsX6_give (wsV RX6 120 RX5 yX5_next wsX5_next) := goodIn_app (goodIn_of _ (by decide +kernel)) ggX6_give_X5_next
set_option maxRecDepth 20000 in
theorem ggX6_give_X3_has : GoodIn wsX6_give wsX3_has := goodIn_r _ [33, 34, 107, 108, 109, 110, 111, 112] (by decide +kernel) (by decide +kernel)
set_option maxRecDepth 20000 in
theorem gX6_give_X3_has : GoodIn wsX6_give (wsV RX6 123 RX3 yX3_has wsX3_has) := goodIn_app (goodIn_of _ (by decide +kernel)) ggX6_give_X3_has
set_option maxRecDepth 20000 in
theorem ggX6_give_X6_refuse : GoodIn wsX6_give wsX6_refuse := goodIn_r _ [38, 39, 40, 41, 10, 42, 43, 85, 86, 87, 88, 89, 90, 91, 92, 93, 94, 95, 96, 97, 98, 99, 100, 101] (by decide +kernel) (by decide +kernel)
set_option maxRecDepth 20000 in
theorem gX6_give_X6_refuse : GoodIn wsX6_give (wsV RX6 126 RX6 yX6_refuse wsX6_refuse) := goodIn_app (goodIn_of _ (by decide +kernel)) ggX6_give_X6_refuse
set_option maxRecDepth 20000 in
theorem ggX6_give_X4_isFull : GoodIn wsX6_give wsX4_isFull := goodIn_r _ [48, 49, 113, 114, 115, 116] (by decide +kernel) (by decide +kernel)
set_option maxRecDepth 20000 in
theorem gX6_give_X4_isFull : GoodIn wsX6_give (wsV RX6 129 RX4 yX4_isFull wsX4_isFull) := goodIn_app (goodIn_of _ (by decide +kernel)) ggX6_give_X4_isFull
set_option maxRecDepth 20000 in
theorem ggX6_give_X2_isInWindow : GoodIn wsX6_give wsX2_isInWindow := goodIn_r _ [54, 55, 56, 57, 58, 59, 60, 61, 62, 63, 64, 117, 118, 119] (by decide +kernel) (by decide +kernel)
set_option maxRecDepth 20000 in
theorem gX6_give_X2_isInWindow : GoodIn wsX6_give (wsV RX6 132 RX2 yX2_isInWindow wsX2_isInWindow) := goodIn_app (goodIn_of _ (by decide +kernel)) ggX6_give_X2_isInWindow
set_option maxRecDepth 20000 in
theorem ggX6_give_X6_contentCheck : GoodIn wsX6_give wsX6_contentCheck := goodIn_r _ [67, 68, 69, 10, 70] (by decide +kernel) (by decide +kernel)
set_option maxRecDepth 20000 in
theorem gX6_give_X6_contentCheck : GoodIn wsX6_give (va_wsS RX6 101 yX6_contentCheck wsX6_contentCheck) := goodIn_app (goodIn_of _ (by decide +kernel)) ggX6_give_X6_contentCheck
set_option maxRecDepth 20000 in
theorem ggX6_give_X6_note : GoodIn wsX6_give wsX6_note := goodIn_r _ [42, 43, 85, 86, 87, 88, 89, 90, 91, 92, 93, 94, 95, 96, 97, 98, 99, 100, 101] (by decide +kernel) (by decide +kernel)
set_option maxRecDepth 20000 in
theorem gX6_give_X6_note : GoodIn wsX6_give (wsV RX6 135 RX6 yX6_note wsX6_note) := goodIn_app (goodIn_of _ (by decide +kernel)) ggX6_give_X6_note
set_option maxRecDepth 20000 in
theorem ggX6_give_X5_spoil : GoodIn wsX6_give wsX5_spoil := goodIn_r _ [74, 17, 102, 103, 104, 105, 106] (by decide +kernel) (by decide +kernel)
set_option maxRecDepth 20000 in
theorem gX6_give_X5_spoil : GoodIn wsX6_give (wsV RX6 138 RX5 yX5_spoil wsX5_spoil) := goodIn_app (goodIn_of _ (by decide +kernel)) ggX6_give_X5_spoil
set_option maxRecDepth 20000 in
theorem ggX6_give_X4_append : GoodIn wsX6_give wsX4_append := goodIn_r _ [78, 49, 79, 80, 113, 114, 115, 116] (by decide +kernel) (by decide +kernel)
set_option maxRecDepth 20000 in
theorem gX6_give_X4_append : GoodIn wsX6_give (wsV RX6 141 RX4 yX4_append wsX4_append) := goodIn_app (goodIn_of _ (by decide +kernel)) ggX6_give_X4_append
set_option maxRecDepth 20000 in
theorem ggX6_give_X5_advance : GoodIn wsX6_give wsX5_advance := goodIn_r _ [84, 28, 23, 102, 103, 104, 105, 106] (by decide +kernel) (by decide +kernel)
set_option maxRecDepth 20000 in
theorem gX6_give_X5_advance : GoodIn wsX6_give (wsV RX6 144 RX5 yX5_advance wsX5_advance) := goodIn_app (goodIn_of _ (by decide +kernel)) ggX6_give_X5_advance
theorem dX6_give_0 : decode cX6_give 0 = .ok (.iload_n 1, 1) := by decide +kernel
theorem dX6_give_1 : decode cX6_give 1 = .ok (.iconst 0, 1) := by decide +kernel
theorem dX6_give_2 : decode cX6_give 2 = .ok (.ldc 64, 2) := by decide +kernel
theorem dX6_give_4 : decode cX6_give 4 = .ok (.invokestatic 60, 3) := by decide +kernel
theorem dX6_give_7 : decode cX6_give 7 = .ok (.ifCond .ne 13, 3) := by decide +kernel
theorem dX6_give_10 : decode cX6_give 10 = .ok (.iload_n 2, 1) := by decide +kernel
theorem dX6_give_11 : decode cX6_give 11 = .ok (.iconst 0, 1) := by decide +kernel
theorem dX6_give_12 : decode cX6_give 12 = .ok (.bipush 127, 2) := by decide +kernel
theorem dX6_give_14 : decode cX6_give 14 = .ok (.invokestatic 60, 3) := by decide +kernel
theorem dX6_give_17 : decode cX6_give 17 = .ok (.ifCond .eq 5, 3) := by decide +kernel
theorem dX6_give_20 : decode cX6_give 20 = .ok (.iconst (-1), 1) := by decide +kernel
theorem dX6_give_21 : decode cX6_give 21 = .ok (.ireturn, 1) := by decide +kernel
theorem dX6_give_22 : decode cX6_give 22 = .ok (.aload_n 0, 1) := by decide +kernel
theorem dX6_give_23 : decode cX6_give 23 = .ok (.getfield 111, 3) := by decide +kernel
theorem dX6_give_26 : decode cX6_give 26 = .ok (.bipush 6, 2) := by decide +kernel
theorem dX6_give_28 : decode cX6_give 28 = .ok (.if_icmp .ne 23, 3) := by decide +kernel
theorem dX6_give_31 : decode cX6_give 31 = .ok (.aload_n 0, 1) := by decide +kernel
theorem dX6_give_32 : decode cX6_give 32 = .ok (.getfield 45, 3) := by decide +kernel
theorem dX6_give_35 : decode cX6_give 35 = .ok (.invokevirtual 114, 3) := by decide +kernel
theorem dX6_give_38 : decode cX6_give 38 = .ok (.ifCond .ne 13, 3) := by decide +kernel
theorem dX6_give_41 : decode cX6_give 41 = .ok (.aload_n 0, 1) := by decide +kernel
theorem dX6_give_42 : decode cX6_give 42 = .ok (.getfield 45, 3) := by decide +kernel
theorem dX6_give_45 : decode cX6_give 45 = .ok (.invokevirtual 117, 3) := by decide +kernel
theorem dX6_give_48 : decode cX6_give 48 = .ok (.ifCond .eq 6, 3) := by decide +kernel
theorem dX6_give_51 : decode cX6_give 51 = .ok (.bipush (-2), 2) := by decide +kernel
theorem dX6_give_53 : decode cX6_give 53 = .ok (.ireturn, 1) := by decide +kernel
theorem dX6_give_54 : decode cX6_give 54 = .ok (.aload_n 0, 1) := by decide +kernel
theorem dX6_give_55 : decode cX6_give 55 = .ok (.getfield 10, 3) := by decide +kernel
theorem dX6_give_58 : decode cX6_give 58 = .ok (.aload_n 0, 1) := by decide +kernel
theorem dX6_give_59 : decode cX6_give 59 = .ok (.getfield 45, 3) := by decide +kernel
theorem dX6_give_62 : decode cX6_give 62 = .ok (.invokevirtual 120, 3) := by decide +kernel
theorem dX6_give_65 : decode cX6_give 65 = .ok (.invokevirtual 123, 3) := by decide +kernel
theorem dX6_give_68 : decode cX6_give 68 = .ok (.ifCond .ne 9, 3) := by decide +kernel
theorem dX6_give_71 : decode cX6_give 71 = .ok (.aload_n 0, 1) := by decide +kernel
theorem dX6_give_72 : decode cX6_give 72 = .ok (.iconst 4, 1) := by decide +kernel
theorem dX6_give_73 : decode cX6_give 73 = .ok (.invokevirtual 126, 3) := by decide +kernel
theorem dX6_give_76 : decode cX6_give 76 = .ok (.ireturn, 1) := by decide +kernel
theorem dX6_give_77 : decode cX6_give 77 = .ok (.aload_n 0, 1) := by decide +kernel
theorem dX6_give_78 : decode cX6_give 78 = .ok (.getfield 31, 3) := by decide +kernel
theorem dX6_give_81 : decode cX6_give 81 = .ok (.invokevirtual 129, 3) := by decide +kernel
theorem dX6_give_84 : decode cX6_give 84 = .ok (.ifCond .eq 6, 3) := by decide +kernel
theorem dX6_give_87 : decode cX6_give 87 = .ok (.bipush (-3), 2) := by decide +kernel
theorem dX6_give_89 : decode cX6_give 89 = .ok (.ireturn, 1) := by decide +kernel
theorem dX6_give_90 : decode cX6_give 90 = .ok (.aload_n 0, 1) := by decide +kernel
theorem dX6_give_91 : decode cX6_give 91 = .ok (.getfield 52, 3) := by decide +kernel
theorem dX6_give_94 : decode cX6_give 94 = .ok (.aload_n 0, 1) := by decide +kernel
theorem dX6_give_95 : decode cX6_give 95 = .ok (.getfield 78, 3) := by decide +kernel
theorem dX6_give_98 : decode cX6_give 98 = .ok (.invokevirtual 132, 3) := by decide +kernel
theorem dX6_give_101 : decode cX6_give 101 = .ok (.ifCond .eq 11, 3) := by decide +kernel
theorem dX6_give_104 : decode cX6_give 104 = .ok (.iload_n 2, 1) := by decide +kernel
theorem dX6_give_105 : decode cX6_give 105 = .ok (.iload_n 1, 1) := by decide +kernel
theorem dX6_give_106 : decode cX6_give 106 = .ok (.invokestatic 101, 3) := by decide +kernel
theorem dX6_give_109 : decode cX6_give 109 = .ok (.if_icmp .eq 18, 3) := by decide +kernel
theorem dX6_give_112 : decode cX6_give 112 = .ok (.aload_n 0, 1) := by decide +kernel
theorem dX6_give_113 : decode cX6_give 113 = .ok (.bipush 64, 2) := by decide +kernel
theorem dX6_give_115 : decode cX6_give 115 = .ok (.invokevirtual 135, 3) := by decide +kernel
theorem dX6_give_118 : decode cX6_give 118 = .ok (.aload_n 0, 1) := by decide +kernel
theorem dX6_give_119 : decode cX6_give 119 = .ok (.getfield 45, 3) := by decide +kernel
theorem dX6_give_122 : decode cX6_give 122 = .ok (.invokevirtual 138, 3) := by decide +kernel
theorem dX6_give_125 : decode cX6_give 125 = .ok (.iconst 0, 1) := by decide +kernel
theorem dX6_give_126 : decode cX6_give 126 = .ok (.ireturn, 1) := by decide +kernel
theorem dX6_give_127 : decode cX6_give 127 = .ok (.aload_n 0, 1) := by decide +kernel
theorem dX6_give_128 : decode cX6_give 128 = .ok (.getfield 31, 3) := by decide +kernel
theorem dX6_give_131 : decode cX6_give 131 = .ok (.aload_n 0, 1) := by decide +kernel
theorem dX6_give_132 : decode cX6_give 132 = .ok (.getfield 45, 3) := by decide +kernel
theorem dX6_give_135 : decode cX6_give 135 = .ok (.invokevirtual 120, 3) := by decide +kernel
theorem dX6_give_138 : decode cX6_give 138 = .ok (.iload_n 1, 1) := by decide +kernel
theorem dX6_give_139 : decode cX6_give 139 = .ok (.invokevirtual 141, 3) := by decide +kernel
theorem dX6_give_142 : decode cX6_give 142 = .ok (.aload_n 0, 1) := by decide +kernel
theorem dX6_give_143 : decode cX6_give 143 = .ok (.getfield 45, 3) := by decide +kernel
theorem dX6_give_146 : decode cX6_give 146 = .ok (.invokevirtual 144, 3) := by decide +kernel
theorem dX6_give_149 : decode cX6_give 149 = .ok (.aload_n 0, 1) := by decide +kernel
theorem dX6_give_150 : decode cX6_give 150 = .ok (.getfield 45, 3) := by decide +kernel
theorem dX6_give_153 : decode cX6_give 153 = .ok (.invokevirtual 117, 3) := by decide +kernel
theorem dX6_give_156 : decode cX6_give 156 = .ok (.ifCond .eq 9, 3) := by decide +kernel
theorem dX6_give_159 : decode cX6_give 159 = .ok (.aload_n 0, 1) := by decide +kernel
theorem dX6_give_160 : decode cX6_give 160 = .ok (.bipush 7, 2) := by decide +kernel
theorem dX6_give_162 : decode cX6_give 162 = .ok (.putfield 111, 3) := by decide +kernel
theorem dX6_give_165 : decode cX6_give 165 = .ok (.iconst 1, 1) := by decide +kernel
theorem dX6_give_166 : decode cX6_give 166 = .ok (.ireturn, 1) := by decide +kernel
set_option maxRecDepth 20000 in
theorem ggX6_get_X5_next : GoodIn wsX6_get wsX5_next := goodIn_r _ [10, 11, 72, 73, 74, 75, 76] (by decide +kernel) (by decide +kernel)
set_option maxRecDepth 20000 in
theorem gX6_get_X5_next : GoodIn wsX6_get (wsV RX6 120 RX5 yX5_next wsX5_next) := goodIn_app (goodIn_of _ (by decide +kernel)) ggX6_get_X5_next
set_option maxRecDepth 20000 in
theorem ggX6_get_X2_isInWindow : GoodIn wsX6_get wsX2_isInWindow := goodIn_r _ [16, 17, 18, 19, 20, 21, 22, 23, 24, 25, 26, 77, 78, 79] (by decide +kernel) (by decide +kernel)
set_option maxRecDepth 20000 in
theorem gX6_get_X2_isInWindow : GoodIn wsX6_get (wsV RX6 132 RX2 yX2_isInWindow wsX2_isInWindow) := goodIn_app (goodIn_of _ (by decide +kernel)) ggX6_get_X2_isInWindow
set_option maxRecDepth 20000 in
theorem ggX6_get_X3_isTorn : GoodIn wsX6_get wsX3_isTorn := goodIn_r _ [31, 32, 33, 34, 35, 30, 36, 37, 80, 81, 82, 83, 84, 85] (by decide +kernel) (by decide +kernel)
set_option maxRecDepth 20000 in
theorem gX6_get_X3_isTorn : GoodIn wsX6_get (wsV RX6 147 RX3 yX3_isTorn wsX3_isTorn) := goodIn_app (goodIn_of _ (by decide +kernel)) ggX6_get_X3_isTorn
set_option maxRecDepth 20000 in
theorem ggX6_get_X5_advance : GoodIn wsX6_get wsX5_advance := goodIn_r _ [41, 11, 42, 72, 73, 74, 75, 76] (by decide +kernel) (by decide +kernel)
set_option maxRecDepth 20000 in
theorem gX6_get_X5_advance : GoodIn wsX6_get (wsV RX6 144 RX5 yX5_advance wsX5_advance) := goodIn_app (goodIn_of _ (by decide +kernel)) ggX6_get_X5_advance
set_option maxRecDepth 20000 in
theorem ggX6_get_X5_isComplete : GoodIn wsX6_get wsX5_isComplete := goodIn_r _ [46, 47, 42, 72, 73, 74, 75, 76] (by decide +kernel) (by decide +kernel)
set_option maxRecDepth 20000 in
theorem gX6_get_X5_isComplete : GoodIn wsX6_get (wsV RX6 117 RX5 yX5_isComplete wsX5_isComplete) := goodIn_app (goodIn_of _ (by decide +kernel)) ggX6_get_X5_isComplete
set_option maxRecDepth 20000 in
theorem ggX6_get_X3_has : GoodIn wsX6_get wsX3_has := goodIn_r _ [36, 37, 80, 81, 82, 83, 84, 85] (by decide +kernel) (by decide +kernel)
set_option maxRecDepth 20000 in
theorem gX6_get_X3_has : GoodIn wsX6_get (wsV RX6 123 RX3 yX3_has wsX3_has) := goodIn_app (goodIn_of _ (by decide +kernel)) ggX6_get_X3_has
set_option maxRecDepth 20000 in
theorem ggX6_get_X3_contentOf : GoodIn wsX6_get wsX3_contentOf := goodIn_r _ [52, 53, 54, 33, 34, 35, 30, 36, 37, 80, 81, 82, 83, 84, 85] (by decide +kernel) (by decide +kernel)
set_option maxRecDepth 20000 in
theorem gX6_get_X3_contentOf : GoodIn wsX6_get (wsV RX6 150 RX3 yX3_contentOf wsX3_contentOf) := goodIn_app (goodIn_of _ (by decide +kernel)) ggX6_get_X3_contentOf
theorem dX6_get_0 : decode cX6_get 0 = .ok (.aload_n 0, 1) := by decide +kernel
theorem dX6_get_1 : decode cX6_get 1 = .ok (.getfield 111, 3) := by decide +kernel
theorem dX6_get_4 : decode cX6_get 4 = .ok (.iconst 5, 1) := by decide +kernel
theorem dX6_get_5 : decode cX6_get 5 = .ok (.if_icmp .eq 6, 3) := by decide +kernel
theorem dX6_get_8 : decode cX6_get 8 = .ok (.bipush (-2), 2) := by decide +kernel
theorem dX6_get_10 : decode cX6_get 10 = .ok (.ireturn, 1) := by decide +kernel
theorem dX6_get_11 : decode cX6_get 11 = .ok (.aload_n 0, 1) := by decide +kernel
theorem dX6_get_12 : decode cX6_get 12 = .ok (.getfield 45, 3) := by decide +kernel
theorem dX6_get_15 : decode cX6_get 15 = .ok (.invokevirtual 120, 3) := by decide +kernel
theorem dX6_get_18 : decode cX6_get 18 = .ok (.istore_n 1, 1) := by decide +kernel
theorem dX6_get_19 : decode cX6_get 19 = .ok (.aload_n 0, 1) := by decide +kernel
theorem dX6_get_20 : decode cX6_get 20 = .ok (.getfield 52, 3) := by decide +kernel
theorem dX6_get_23 : decode cX6_get 23 = .ok (.aload_n 0, 1) := by decide +kernel
theorem dX6_get_24 : decode cX6_get 24 = .ok (.getfield 78, 3) := by decide +kernel
theorem dX6_get_27 : decode cX6_get 27 = .ok (.invokevirtual 132, 3) := by decide +kernel
theorem dX6_get_30 : decode cX6_get 30 = .ok (.ifCond .eq 14, 3) := by decide +kernel
theorem dX6_get_33 : decode cX6_get 33 = .ok (.aload_n 0, 1) := by decide +kernel
theorem dX6_get_34 : decode cX6_get 34 = .ok (.getfield 10, 3) := by decide +kernel
theorem dX6_get_37 : decode cX6_get 37 = .ok (.iload_n 1, 1) := by decide +kernel
theorem dX6_get_38 : decode cX6_get 38 = .ok (.invokevirtual 147, 3) := by decide +kernel
theorem dX6_get_41 : decode cX6_get 41 = .ok (.ifCond .eq 6, 3) := by decide +kernel
theorem dX6_get_44 : decode cX6_get 44 = .ok (.bipush (-4), 2) := by decide +kernel
theorem dX6_get_46 : decode cX6_get 46 = .ok (.ireturn, 1) := by decide +kernel
theorem dX6_get_47 : decode cX6_get 47 = .ok (.aload_n 0, 1) := by decide +kernel
theorem dX6_get_48 : decode cX6_get 48 = .ok (.getfield 45, 3) := by decide +kernel
theorem dX6_get_51 : decode cX6_get 51 = .ok (.invokevirtual 144, 3) := by decide +kernel
theorem dX6_get_54 : decode cX6_get 54 = .ok (.aload_n 0, 1) := by decide +kernel
theorem dX6_get_55 : decode cX6_get 55 = .ok (.getfield 45, 3) := by decide +kernel
theorem dX6_get_58 : decode cX6_get 58 = .ok (.invokevirtual 117, 3) := by decide +kernel
theorem dX6_get_61 : decode cX6_get 61 = .ok (.ifCond .ne 20, 3) := by decide +kernel
theorem dX6_get_64 : decode cX6_get 64 = .ok (.aload_n 0, 1) := by decide +kernel
theorem dX6_get_65 : decode cX6_get 65 = .ok (.getfield 10, 3) := by decide +kernel
theorem dX6_get_68 : decode cX6_get 68 = .ok (.aload_n 0, 1) := by decide +kernel
theorem dX6_get_69 : decode cX6_get 69 = .ok (.getfield 45, 3) := by decide +kernel
theorem dX6_get_72 : decode cX6_get 72 = .ok (.invokevirtual 120, 3) := by decide +kernel
theorem dX6_get_75 : decode cX6_get 75 = .ok (.invokevirtual 123, 3) := by decide +kernel
theorem dX6_get_78 : decode cX6_get 78 = .ok (.ifCond .ne 8, 3) := by decide +kernel
theorem dX6_get_81 : decode cX6_get 81 = .ok (.aload_n 0, 1) := by decide +kernel
theorem dX6_get_82 : decode cX6_get 82 = .ok (.iconst 4, 1) := by decide +kernel
theorem dX6_get_83 : decode cX6_get 83 = .ok (.putfield 111, 3) := by decide +kernel
theorem dX6_get_86 : decode cX6_get 86 = .ok (.aload_n 0, 1) := by decide +kernel
theorem dX6_get_87 : decode cX6_get 87 = .ok (.getfield 10, 3) := by decide +kernel
theorem dX6_get_90 : decode cX6_get 90 = .ok (.iload_n 1, 1) := by decide +kernel
theorem dX6_get_91 : decode cX6_get 91 = .ok (.invokevirtual 150, 3) := by decide +kernel
theorem dX6_get_94 : decode cX6_get 94 = .ok (.ireturn, 1) := by decide +kernel
set_option maxRecDepth 20000 in
theorem ggX6_tick_X6_isOutside : GoodIn wsX6_tick wsX6_isOutside := goodIn_r _ [5] (by decide +kernel) (by decide +kernel)
set_option maxRecDepth 20000 in
theorem gX6_tick_X6_isOutside : GoodIn wsX6_tick (va_wsS RX6 60 yX6_isOutside wsX6_isOutside) := goodIn_app (goodIn_of _ (by decide +kernel)) ggX6_tick_X6_isOutside
set_option maxRecDepth 20000 in
theorem ggX6_tick_X6_work : GoodIn wsX6_tick wsX6_work := goodIn_r _ [9, 10, 11, 12, 13, 14, 15, 16, 17, 18, 19, 20, 21, 4, 22, 23, 24, 25, 26, 27, 28, 29, 30, 31, 32, 33, 34, 35, 36, 37, 38, 39, 40, 41, 42, 43, 44, 45, 46, 47, 48, 49, 50, 51, 52, 53, 54, 55, 56, 57, 58, 59, 60, 61, 62, 63, 64, 65, 66, 67, 68, 69, 70, 71, 72, 73, 74, 75, 76, 77, 78, 79, 80, 81, 82, 83, 84, 85, 86, 87, 88, 89, 90, 91, 92, 93, 94, 95, 96, 97, 98, 99, 100, 101, 102, 103, 104, 105, 106, 107, 108, 109, 110, 111, 112, 113, 114, 115, 116, 117, 118, 119, 120, 121, 122, 123, 124, 125, 126, 127, 128, 129, 130, 131, 132, 133, 134, 135, 136, 137, 138, 139, 140, 141, 142] (by decide +kernel) (by decide +kernel)
set_option maxRecDepth 20000 in
theorem gX6_tick_X6_work : GoodIn wsX6_tick (wsV RX6 156 RX6 yX6_work wsX6_work) := goodIn_app (goodIn_of _ (by decide +kernel)) ggX6_tick_X6_work
theorem dX6_tick_0 : decode cX6_tick 0 = .ok (.iload_n 1, 1) := by decide +kernel
theorem dX6_tick_1 : decode cX6_tick 1 = .ok (.iconst 1, 1) := by decide +kernel
theorem dX6_tick_2 : decode cX6_tick 2 = .ok (.sipush 400, 3) := by decide +kernel
theorem dX6_tick_5 : decode cX6_tick 5 = .ok (.invokestatic 60, 3) := by decide +kernel
theorem dX6_tick_8 : decode cX6_tick 8 = .ok (.ifCond .eq 5, 3) := by decide +kernel
theorem dX6_tick_11 : decode cX6_tick 11 = .ok (.iconst (-1), 1) := by decide +kernel
theorem dX6_tick_12 : decode cX6_tick 12 = .ok (.ireturn, 1) := by decide +kernel
theorem dX6_tick_13 : decode cX6_tick 13 = .ok (.iconst 0, 1) := by decide +kernel
theorem dX6_tick_14 : decode cX6_tick 14 = .ok (.istore_n 2, 1) := by decide +kernel
theorem dX6_tick_15 : decode cX6_tick 15 = .ok (.iload_n 2, 1) := by decide +kernel
theorem dX6_tick_16 : decode cX6_tick 16 = .ok (.iload_n 1, 1) := by decide +kernel
theorem dX6_tick_17 : decode cX6_tick 17 = .ok (.if_icmp .ge 23, 3) := by decide +kernel
theorem dX6_tick_20 : decode cX6_tick 20 = .ok (.aload_n 0, 1) := by decide +kernel
theorem dX6_tick_21 : decode cX6_tick 21 = .ok (.dup, 1) := by decide +kernel
theorem dX6_tick_22 : decode cX6_tick 22 = .ok (.getfield 153, 3) := by decide +kernel
theorem dX6_tick_25 : decode cX6_tick 25 = .ok (.iconst 1, 1) := by decide +kernel
theorem dX6_tick_26 : decode cX6_tick 26 = .ok (.iadd, 1) := by decide +kernel
theorem dX6_tick_27 : decode cX6_tick 27 = .ok (.putfield 153, 3) := by decide +kernel
theorem dX6_tick_30 : decode cX6_tick 30 = .ok (.aload_n 0, 1) := by decide +kernel
theorem dX6_tick_31 : decode cX6_tick 31 = .ok (.invokevirtual 156, 3) := by decide +kernel
theorem dX6_tick_34 : decode cX6_tick 34 = .ok (.iinc 2 1, 3) := by decide +kernel
theorem dX6_tick_37 : decode cX6_tick 37 = .ok (.goto (-22), 3) := by decide +kernel
theorem dX6_tick_40 : decode cX6_tick 40 = .ok (.aload_n 0, 1) := by decide +kernel
theorem dX6_tick_41 : decode cX6_tick 41 = .ok (.getfield 153, 3) := by decide +kernel
theorem dX6_tick_44 : decode cX6_tick 44 = .ok (.ireturn, 1) := by decide +kernel
set_option maxRecDepth 20000 in
theorem ggX6_tune_X6_commandCheck : GoodIn wsX6_tune wsX6_commandCheck := goodIn_r _ [4, 5, 6, 7, 3, 8] (by decide +kernel) (by decide +kernel)
set_option maxRecDepth 20000 in
theorem gX6_tune_X6_commandCheck : GoodIn wsX6_tune (va_wsS RX6 97 yX6_commandCheck wsX6_commandCheck) := goodIn_app (goodIn_of _ (by decide +kernel)) ggX6_tune_X6_commandCheck
set_option maxRecDepth 20000 in
theorem ggX6_tune_X6_hears : GoodIn wsX6_tune wsX6_hears := goodIn_r _ [12, 13, 14, 15, 16, 3, 17, 18, 1, 2, 4, 5, 6, 7, 8, 19, 20, 21, 22, 23, 24, 25, 26, 27, 28, 29, 30, 31, 32, 33, 34, 35, 36, 37, 38, 39, 40, 41, 42, 43, 44, 45, 46, 366, 367, 368, 369, 370, 371, 372, 373, 374, 375, 376, 377, 378, 379, 380, 381, 382, 383, 384, 385, 386, 387, 388] (by decide +kernel) (by decide +kernel)
set_option maxRecDepth 20000 in
theorem gX6_tune_X6_hears : GoodIn wsX6_tune (wsV RX6 105 RX6 yX6_hears wsX6_hears) := goodIn_app (goodIn_of _ (by decide +kernel)) ggX6_tune_X6_hears
set_option maxRecDepth 20000 in
theorem ggX6_tune_X6_obey : GoodIn wsX6_tune wsX6_obey := goodIn_r _ [50, 51, 52, 53, 54, 3, 55, 56, 57, 58, 59, 60, 61, 13, 62, 63, 64, 65, 66, 67, 68, 69, 70, 71, 72, 73, 74, 75, 76, 77, 78, 79, 80, 81, 82, 83, 84, 85, 86, 87, 88, 89, 90, 91, 92, 93, 94, 95, 96, 97, 98, 99, 100, 101, 102, 103, 38, 104, 105, 106, 107, 108, 109, 110, 111, 112, 113, 114, 115, 116, 117, 118, 119, 120, 18, 121, 28, 122, 123, 124, 125, 126, 23, 127, 128, 129, 130, 131, 132, 133, 134, 135, 136, 137, 138, 139, 140, 141, 142, 143, 144, 145, 146, 42, 43, 44, 40, 45, 46, 147, 148, 149, 150, 151, 152, 153, 154, 155, 156, 157, 158, 159, 160, 161, 162, 163, 164, 165, 166, 167, 168, 169, 170, 171, 172, 173, 174, 175, 176, 177, 178, 179, 180, 181, 182, 183, 184, 185, 186, 187, 188, 189, 190, 191, 192, 193, 194, 195, 19, 20, 21, 22, 196, 197, 198, 199, 200, 201, 202, 203, 204, 205, 206, 207, 208, 209, 210, 211, 212, 213, 214, 215, 216, 217, 218, 219, 220, 221, 222, 223, 224, 225, 226, 227, 228, 229, 230, 231, 232, 233, 234, 235, 236, 237, 238, 239, 240, 241, 242, 243, 244, 245, 246, 247, 248, 249, 250, 251, 252, 253, 254, 255, 256, 257, 258, 259, 260, 261, 262, 263, 264, 265, 41, 266, 267, 268, 269, 270, 271, 272, 273, 274, 275, 276, 277, 278, 279, 280, 281, 282, 283, 284, 285, 286, 287, 288, 289, 290, 291, 292, 293, 294, 295, 296, 297, 298, 299, 300, 301, 302, 303, 304, 305, 306, 307, 308, 309, 310, 311, 312, 313, 314, 315, 316, 317, 318, 319, 320, 321, 322, 323, 324, 325, 326, 327, 328, 329, 330, 331, 332, 333, 334, 335, 336, 337, 338, 339, 340, 341, 342, 343, 344, 345, 346, 347, 348, 349, 350, 351, 352, 353, 354, 355, 356, 357, 358, 359, 366, 367, 368, 369, 370, 371, 372, 373, 374, 375, 376, 377, 378, 379, 380, 381, 382, 389, 390, 391, 392, 393, 394, 395, 396, 397, 398, 383, 384, 385, 386, 387, 388, 399, 400, 401, 402, 403, 404, 405, 406, 407, 408] (by decide +kernel) (by decide +kernel)
set_option maxRecDepth 20000 in
theorem gX6_tune_X6_obey : GoodIn wsX6_tune (wsV RX6 108 RX6 yX6_obey wsX6_obey) := goodIn_app (goodIn_of _ (by decide +kernel)) ggX6_tune_X6_obey
set_option maxRecDepth 20000 in
theorem ggX6_tune_X6_middleOfLongestRow : GoodIn wsX6_tune wsX6_middleOfLongestRow := goodIn_r _ [362, 363, 364, 3, 365] (by decide +kernel) (by decide +kernel)
set_option maxRecDepth 20000 in
theorem gX6_tune_X6_middleOfLongestRow : GoodIn wsX6_tune (va_wsS RX6 159 yX6_middleOfLongestRow wsX6_middleOfLongestRow) := goodIn_app (goodIn_of _ (by decide +kernel)) ggX6_tune_X6_middleOfLongestRow
theorem dX6_tune_0 : decode cX6_tune 0 = .ok (.iconst 0, 1) := by decide +kernel
theorem dX6_tune_1 : decode cX6_tune 1 = .ok (.istore_n 1, 1) := by decide +kernel
theorem dX6_tune_2 : decode cX6_tune 2 = .ok (.iconst 0, 1) := by decide +kernel
theorem dX6_tune_3 : decode cX6_tune 3 = .ok (.istore_n 2, 1) := by decide +kernel
theorem dX6_tune_4 : decode cX6_tune 4 = .ok (.iload_n 2, 1) := by decide +kernel
theorem dX6_tune_5 : decode cX6_tune 5 = .ok (.bipush 16, 2) := by decide +kernel
theorem dX6_tune_7 : decode cX6_tune 7 = .ok (.if_icmp .ge 40, 3) := by decide +kernel
theorem dX6_tune_10 : decode cX6_tune 10 = .ok (.aload_n 0, 1) := by decide +kernel
theorem dX6_tune_11 : decode cX6_tune 11 = .ok (.bipush 21, 2) := by decide +kernel
theorem dX6_tune_13 : decode cX6_tune 13 = .ok (.iload_n 2, 1) := by decide +kernel
theorem dX6_tune_14 : decode cX6_tune 14 = .ok (.bipush 21, 2) := by decide +kernel
theorem dX6_tune_16 : decode cX6_tune 16 = .ok (.iload_n 2, 1) := by decide +kernel
theorem dX6_tune_17 : decode cX6_tune 17 = .ok (.invokestatic 97, 3) := by decide +kernel
theorem dX6_tune_20 : decode cX6_tune 20 = .ok (.invokevirtual 105, 3) := by decide +kernel
theorem dX6_tune_23 : decode cX6_tune 23 = .ok (.ifCond .ne 6, 3) := by decide +kernel
theorem dX6_tune_26 : decode cX6_tune 26 = .ok (.bipush (-4), 2) := by decide +kernel
theorem dX6_tune_28 : decode cX6_tune 28 = .ok (.ireturn, 1) := by decide +kernel
theorem dX6_tune_29 : decode cX6_tune 29 = .ok (.iload_n 1, 1) := by decide +kernel
theorem dX6_tune_30 : decode cX6_tune 30 = .ok (.aload_n 0, 1) := by decide +kernel
theorem dX6_tune_31 : decode cX6_tune 31 = .ok (.bipush 21, 2) := by decide +kernel
theorem dX6_tune_33 : decode cX6_tune 33 = .ok (.iload_n 2, 1) := by decide +kernel
theorem dX6_tune_34 : decode cX6_tune 34 = .ok (.invokevirtual 108, 3) := by decide +kernel
theorem dX6_tune_37 : decode cX6_tune 37 = .ok (.iload_n 2, 1) := by decide +kernel
theorem dX6_tune_38 : decode cX6_tune 38 = .ok (.ishl, 1) := by decide +kernel
theorem dX6_tune_39 : decode cX6_tune 39 = .ok (.ior, 1) := by decide +kernel
theorem dX6_tune_40 : decode cX6_tune 40 = .ok (.istore_n 1, 1) := by decide +kernel
theorem dX6_tune_41 : decode cX6_tune 41 = .ok (.iinc 2 1, 3) := by decide +kernel
theorem dX6_tune_44 : decode cX6_tune 44 = .ok (.goto (-40), 3) := by decide +kernel
theorem dX6_tune_47 : decode cX6_tune 47 = .ok (.iload_n 1, 1) := by decide +kernel
theorem dX6_tune_48 : decode cX6_tune 48 = .ok (.ifCond .ne 6, 3) := by decide +kernel
theorem dX6_tune_51 : decode cX6_tune 51 = .ok (.bipush (-2), 2) := by decide +kernel
theorem dX6_tune_53 : decode cX6_tune 53 = .ok (.ireturn, 1) := by decide +kernel
theorem dX6_tune_54 : decode cX6_tune 54 = .ok (.iload_n 1, 1) := by decide +kernel
theorem dX6_tune_55 : decode cX6_tune 55 = .ok (.invokestatic 159, 3) := by decide +kernel
theorem dX6_tune_58 : decode cX6_tune 58 = .ok (.istore_n 2, 1) := by decide +kernel
theorem dX6_tune_59 : decode cX6_tune 59 = .ok (.aload_n 0, 1) := by decide +kernel
theorem dX6_tune_60 : decode cX6_tune 60 = .ok (.bipush 21, 2) := by decide +kernel
theorem dX6_tune_62 : decode cX6_tune 62 = .ok (.iload_n 2, 1) := by decide +kernel
theorem dX6_tune_63 : decode cX6_tune 63 = .ok (.bipush 21, 2) := by decide +kernel
theorem dX6_tune_65 : decode cX6_tune 65 = .ok (.iload_n 2, 1) := by decide +kernel
theorem dX6_tune_66 : decode cX6_tune 66 = .ok (.invokestatic 97, 3) := by decide +kernel
theorem dX6_tune_69 : decode cX6_tune 69 = .ok (.invokevirtual 105, 3) := by decide +kernel
theorem dX6_tune_72 : decode cX6_tune 72 = .ok (.ifCond .eq 11, 3) := by decide +kernel
theorem dX6_tune_75 : decode cX6_tune 75 = .ok (.aload_n 0, 1) := by decide +kernel
theorem dX6_tune_76 : decode cX6_tune 76 = .ok (.bipush 21, 2) := by decide +kernel
theorem dX6_tune_78 : decode cX6_tune 78 = .ok (.iload_n 2, 1) := by decide +kernel
theorem dX6_tune_79 : decode cX6_tune 79 = .ok (.invokevirtual 108, 3) := by decide +kernel
theorem dX6_tune_82 : decode cX6_tune 82 = .ok (.pop, 1) := by decide +kernel
theorem dX6_tune_83 : decode cX6_tune 83 = .ok (.iload_n 2, 1) := by decide +kernel
theorem dX6_tune_84 : decode cX6_tune 84 = .ok (.ireturn, 1) := by decide +kernel
set_option maxRecDepth 20000 in
theorem ggX6_block_X3_has : GoodIn wsX6_block wsX3_has := goodIn_r _ [6, 7, 49, 50, 51, 52, 53, 54] (by decide +kernel) (by decide +kernel)
set_option maxRecDepth 20000 in
theorem gX6_block_X3_has : GoodIn wsX6_block (wsV RX6 123 RX3 yX3_has wsX3_has) := goodIn_app (goodIn_of _ (by decide +kernel)) ggX6_block_X3_has
set_option maxRecDepth 20000 in
theorem ggX6_block_X6_isOutside : GoodIn wsX6_block wsX6_isOutside := goodIn_r _ [11] (by decide +kernel) (by decide +kernel)
set_option maxRecDepth 20000 in
theorem gX6_block_X6_isOutside : GoodIn wsX6_block (va_wsS RX6 60 yX6_isOutside wsX6_isOutside) := goodIn_app (goodIn_of _ (by decide +kernel)) ggX6_block_X6_isOutside
set_option maxRecDepth 20000 in
theorem ggX6_block_X3_contentOf : GoodIn wsX6_block wsX3_contentOf := goodIn_r _ [15, 16, 17, 18, 3, 4, 5, 6, 7, 49, 50, 51, 52, 53, 54] (by decide +kernel) (by decide +kernel)
set_option maxRecDepth 20000 in
theorem gX6_block_X3_contentOf : GoodIn wsX6_block (wsV RX6 150 RX3 yX3_contentOf wsX3_contentOf) := goodIn_app (goodIn_of _ (by decide +kernel)) ggX6_block_X3_contentOf
set_option maxRecDepth 20000 in
theorem ggX6_block_X3_isTorn : GoodIn wsX6_block wsX3_isTorn := goodIn_r _ [22, 23, 18, 3, 4, 5, 6, 7, 49, 50, 51, 52, 53, 54] (by decide +kernel) (by decide +kernel)
set_option maxRecDepth 20000 in
theorem gX6_block_X3_isTorn : GoodIn wsX6_block (wsV RX6 147 RX3 yX3_isTorn wsX3_isTorn) := goodIn_app (goodIn_of _ (by decide +kernel)) ggX6_block_X3_isTorn
set_option maxRecDepth 20000 in
theorem ggX6_block_X6_asNumber : GoodIn wsX6_block wsX6_asNumber := goodIn_r _ [26] (by decide +kernel) (by decide +kernel)
set_option maxRecDepth 20000 in
theorem gX6_block_X6_asNumber : GoodIn wsX6_block (va_wsS RX6 162 yX6_asNumber wsX6_asNumber) := goodIn_app (goodIn_of _ (by decide +kernel)) ggX6_block_X6_asNumber
set_option maxRecDepth 20000 in
theorem ggX6_block_X3_groupOf : GoodIn wsX6_block wsX3_groupOf := goodIn_r _ [30, 31, 49, 50, 51, 52, 53, 54] (by decide +kernel) (by decide +kernel)
set_option maxRecDepth 20000 in
theorem gX6_block_X3_groupOf : GoodIn wsX6_block (wsV RX6 166 RX3 yX3_groupOf wsX3_groupOf) := goodIn_app (goodIn_of _ (by decide +kernel)) ggX6_block_X3_groupOf
theorem dX6_block_0 : decode cX6_block 0 = .ok (.aload_n 0, 1) := by decide +kernel
theorem dX6_block_1 : decode cX6_block 1 = .ok (.getfield 10, 3) := by decide +kernel
theorem dX6_block_4 : decode cX6_block 4 = .ok (.iload_n 1, 1) := by decide +kernel
theorem dX6_block_5 : decode cX6_block 5 = .ok (.invokevirtual 123, 3) := by decide +kernel
theorem dX6_block_8 : decode cX6_block 8 = .ok (.ifCond .eq 12, 3) := by decide +kernel
theorem dX6_block_11 : decode cX6_block 11 = .ok (.iload_n 2, 1) := by decide +kernel
theorem dX6_block_12 : decode cX6_block 12 = .ok (.iconst 0, 1) := by decide +kernel
theorem dX6_block_13 : decode cX6_block 13 = .ok (.iconst 2, 1) := by decide +kernel
theorem dX6_block_14 : decode cX6_block 14 = .ok (.invokestatic 60, 3) := by decide +kernel
theorem dX6_block_17 : decode cX6_block 17 = .ok (.ifCond .eq 5, 3) := by decide +kernel
theorem dX6_block_20 : decode cX6_block 20 = .ok (.iconst (-1), 1) := by decide +kernel
theorem dX6_block_21 : decode cX6_block 21 = .ok (.ireturn, 1) := by decide +kernel
theorem dX6_block_22 : decode cX6_block 22 = .ok (.iload_n 2, 1) := by decide +kernel
theorem dX6_block_23 : decode cX6_block 23 = .ok (.ifCond .ne 12, 3) := by decide +kernel
theorem dX6_block_26 : decode cX6_block 26 = .ok (.aload_n 0, 1) := by decide +kernel
theorem dX6_block_27 : decode cX6_block 27 = .ok (.getfield 10, 3) := by decide +kernel
theorem dX6_block_30 : decode cX6_block 30 = .ok (.iload_n 1, 1) := by decide +kernel
theorem dX6_block_31 : decode cX6_block 31 = .ok (.invokevirtual 150, 3) := by decide +kernel
theorem dX6_block_34 : decode cX6_block 34 = .ok (.ireturn, 1) := by decide +kernel
theorem dX6_block_35 : decode cX6_block 35 = .ok (.iload_n 2, 1) := by decide +kernel
theorem dX6_block_36 : decode cX6_block 36 = .ok (.iconst 1, 1) := by decide +kernel
theorem dX6_block_37 : decode cX6_block 37 = .ok (.if_icmp .ne 15, 3) := by decide +kernel
theorem dX6_block_40 : decode cX6_block 40 = .ok (.aload_n 0, 1) := by decide +kernel
theorem dX6_block_41 : decode cX6_block 41 = .ok (.getfield 10, 3) := by decide +kernel
theorem dX6_block_44 : decode cX6_block 44 = .ok (.iload_n 1, 1) := by decide +kernel
theorem dX6_block_45 : decode cX6_block 45 = .ok (.invokevirtual 147, 3) := by decide +kernel
theorem dX6_block_48 : decode cX6_block 48 = .ok (.invokestatic 162, 3) := by decide +kernel
theorem dX6_block_51 : decode cX6_block 51 = .ok (.ireturn, 1) := by decide +kernel
theorem dX6_block_52 : decode cX6_block 52 = .ok (.aload_n 0, 1) := by decide +kernel
theorem dX6_block_53 : decode cX6_block 53 = .ok (.getfield 10, 3) := by decide +kernel
theorem dX6_block_56 : decode cX6_block 56 = .ok (.iload_n 1, 1) := by decide +kernel
theorem dX6_block_57 : decode cX6_block 57 = .ok (.invokevirtual 166, 3) := by decide +kernel
theorem dX6_block_60 : decode cX6_block 60 = .ok (.ireturn, 1) := by decide +kernel
set_option maxRecDepth 20000 in
theorem ggX6_latest_X3_writtenAt : GoodIn wsX6_latest wsX3_writtenAt := goodIn_r _ [6, 7, 8, 26, 27, 28, 29, 30, 31] (by decide +kernel) (by decide +kernel)
set_option maxRecDepth 20000 in
theorem gX6_latest_X3_writtenAt : GoodIn wsX6_latest (wsV RX6 169 RX3 yX3_writtenAt wsX3_writtenAt) := goodIn_app (goodIn_of _ (by decide +kernel)) ggX6_latest_X3_writtenAt
theorem dX6_latest_0 : decode cX6_latest 0 = .ok (.iload_n 1, 1) := by decide +kernel
theorem dX6_latest_1 : decode cX6_latest 1 = .ok (.ifCond .ge 5, 3) := by decide +kernel
theorem dX6_latest_4 : decode cX6_latest 4 = .ok (.iconst (-1), 1) := by decide +kernel
theorem dX6_latest_5 : decode cX6_latest 5 = .ok (.ireturn, 1) := by decide +kernel
theorem dX6_latest_6 : decode cX6_latest 6 = .ok (.aload_n 0, 1) := by decide +kernel
theorem dX6_latest_7 : decode cX6_latest 7 = .ok (.getfield 10, 3) := by decide +kernel
theorem dX6_latest_10 : decode cX6_latest 10 = .ok (.iload_n 1, 1) := by decide +kernel
theorem dX6_latest_11 : decode cX6_latest 11 = .ok (.invokevirtual 169, 3) := by decide +kernel
theorem dX6_latest_14 : decode cX6_latest 14 = .ok (.ireturn, 1) := by decide +kernel
set_option maxRecDepth 20000 in
theorem ggX6_word_X1_length : GoodIn wsX6_word wsX1_length := goodIn_r _ [6, 7, 30, 31] (by decide +kernel) (by decide +kernel)
set_option maxRecDepth 20000 in
theorem gX6_word_X1_length : GoodIn wsX6_word (wsV RX6 86 RX1 yX1_length wsX1_length) := goodIn_app (goodIn_of _ (by decide +kernel)) ggX6_word_X1_length
set_option maxRecDepth 20000 in
theorem ggX6_word_X1_at : GoodIn wsX6_word wsX1_at := goodIn_r _ [11, 7, 12, 30, 31] (by decide +kernel) (by decide +kernel)
set_option maxRecDepth 20000 in
theorem gX6_word_X1_at : GoodIn wsX6_word (wsV RX6 172 RX1 yX1_at wsX1_at) := goodIn_app (goodIn_of _ (by decide +kernel)) ggX6_word_X1_at
theorem dX6_word_0 : decode cX6_word 0 = .ok (.iload_n 1, 1) := by decide +kernel
theorem dX6_word_1 : decode cX6_word 1 = .ok (.iconst (-1), 1) := by decide +kernel
theorem dX6_word_2 : decode cX6_word 2 = .ok (.if_icmp .ge 5, 3) := by decide +kernel
theorem dX6_word_5 : decode cX6_word 5 = .ok (.iconst (-1), 1) := by decide +kernel
theorem dX6_word_6 : decode cX6_word 6 = .ok (.ireturn, 1) := by decide +kernel
theorem dX6_word_7 : decode cX6_word 7 = .ok (.iload_n 1, 1) := by decide +kernel
theorem dX6_word_8 : decode cX6_word 8 = .ok (.iconst (-1), 1) := by decide +kernel
theorem dX6_word_9 : decode cX6_word 9 = .ok (.if_icmp .ne 11, 3) := by decide +kernel
theorem dX6_word_12 : decode cX6_word 12 = .ok (.aload_n 0, 1) := by decide +kernel
theorem dX6_word_13 : decode cX6_word 13 = .ok (.getfield 25, 3) := by decide +kernel
theorem dX6_word_16 : decode cX6_word 16 = .ok (.invokevirtual 86, 3) := by decide +kernel
theorem dX6_word_19 : decode cX6_word 19 = .ok (.ireturn, 1) := by decide +kernel
theorem dX6_word_20 : decode cX6_word 20 = .ok (.aload_n 0, 1) := by decide +kernel
theorem dX6_word_21 : decode cX6_word 21 = .ok (.getfield 25, 3) := by decide +kernel
theorem dX6_word_24 : decode cX6_word 24 = .ok (.iload_n 1, 1) := by decide +kernel
theorem dX6_word_25 : decode cX6_word 25 = .ok (.invokevirtual 172, 3) := by decide +kernel
theorem dX6_word_28 : decode cX6_word 28 = .ok (.ireturn, 1) := by decide +kernel
set_option maxRecDepth 20000 in
theorem ggX6_later_X6_isOutside : GoodIn wsX6_later wsX6_isOutside := goodIn_r _ [5] (by decide +kernel) (by decide +kernel)
set_option maxRecDepth 20000 in
theorem gX6_later_X6_isOutside : GoodIn wsX6_later (va_wsS RX6 60 yX6_isOutside wsX6_isOutside) := goodIn_app (goodIn_of _ (by decide +kernel)) ggX6_later_X6_isOutside
set_option maxRecDepth 20000 in
theorem ggX6_later_X4_size : GoodIn wsX6_later wsX4_size := goodIn_r _ [10, 11, 36, 37, 38, 39] (by decide +kernel) (by decide +kernel)
set_option maxRecDepth 20000 in
theorem gX6_later_X4_size : GoodIn wsX6_later (wsV RX6 175 RX4 yX4_size wsX4_size) := goodIn_app (goodIn_of _ (by decide +kernel)) ggX6_later_X4_size
set_option maxRecDepth 20000 in
theorem ggX6_later_X4_tellOf : GoodIn wsX6_later wsX4_tellOf := goodIn_r _ [15, 11, 16, 17, 18, 36, 37, 38, 39] (by decide +kernel) (by decide +kernel)
set_option maxRecDepth 20000 in
theorem gX6_later_X4_tellOf : GoodIn wsX6_later (wsV RX6 178 RX4 yX4_tellOf wsX4_tellOf) := goodIn_app (goodIn_of _ (by decide +kernel)) ggX6_later_X4_tellOf
theorem dX6_later_0 : decode cX6_later 0 = .ok (.iload_n 1, 1) := by decide +kernel
theorem dX6_later_1 : decode cX6_later 1 = .ok (.iconst (-1), 1) := by decide +kernel
theorem dX6_later_2 : decode cX6_later 2 = .ok (.if_icmp .lt 12, 3) := by decide +kernel
theorem dX6_later_5 : decode cX6_later 5 = .ok (.iload_n 2, 1) := by decide +kernel
theorem dX6_later_6 : decode cX6_later 6 = .ok (.iconst 0, 1) := by decide +kernel
theorem dX6_later_7 : decode cX6_later 7 = .ok (.iconst 2, 1) := by decide +kernel
theorem dX6_later_8 : decode cX6_later 8 = .ok (.invokestatic 60, 3) := by decide +kernel
theorem dX6_later_11 : decode cX6_later 11 = .ok (.ifCond .eq 5, 3) := by decide +kernel
theorem dX6_later_14 : decode cX6_later 14 = .ok (.iconst (-1), 1) := by decide +kernel
theorem dX6_later_15 : decode cX6_later 15 = .ok (.ireturn, 1) := by decide +kernel
theorem dX6_later_16 : decode cX6_later 16 = .ok (.iload_n 1, 1) := by decide +kernel
theorem dX6_later_17 : decode cX6_later 17 = .ok (.iconst (-1), 1) := by decide +kernel
theorem dX6_later_18 : decode cX6_later 18 = .ok (.if_icmp .ne 11, 3) := by decide +kernel
theorem dX6_later_21 : decode cX6_later 21 = .ok (.aload_n 0, 1) := by decide +kernel
theorem dX6_later_22 : decode cX6_later 22 = .ok (.getfield 31, 3) := by decide +kernel
theorem dX6_later_25 : decode cX6_later 25 = .ok (.invokevirtual 175, 3) := by decide +kernel
theorem dX6_later_28 : decode cX6_later 28 = .ok (.ireturn, 1) := by decide +kernel
theorem dX6_later_29 : decode cX6_later 29 = .ok (.aload_n 0, 1) := by decide +kernel
theorem dX6_later_30 : decode cX6_later 30 = .ok (.getfield 31, 3) := by decide +kernel
theorem dX6_later_33 : decode cX6_later 33 = .ok (.iload_n 1, 1) := by decide +kernel
theorem dX6_later_34 : decode cX6_later 34 = .ok (.iload_n 2, 1) := by decide +kernel
theorem dX6_later_35 : decode cX6_later 35 = .ok (.invokevirtual 178, 3) := by decide +kernel
theorem dX6_later_38 : decode cX6_later 38 = .ok (.ireturn, 1) := by decide +kernel
set_option maxRecDepth 20000 in
theorem ggX6_count_X3_size : GoodIn wsX6_count wsX3_size := goodIn_r _ [17, 18, 133, 134, 135, 136, 137, 138] (by decide +kernel) (by decide +kernel)
set_option maxRecDepth 20000 in
theorem gX6_count_X3_size : GoodIn wsX6_count (wsV RX6 181 RX3 yX3_size wsX3_size) := goodIn_app (goodIn_of _ (by decide +kernel)) ggX6_count_X3_size
set_option maxRecDepth 20000 in
theorem ggX6_count_X3_groupSize : GoodIn wsX6_count wsX3_groupSize := goodIn_r _ [22, 23, 133, 134, 135, 136, 137, 138] (by decide +kernel) (by decide +kernel)
set_option maxRecDepth 20000 in
theorem gX6_count_X3_groupSize : GoodIn wsX6_count (wsV RX6 182 RX3 yX3_groupSize wsX3_groupSize) := goodIn_app (goodIn_of _ (by decide +kernel)) ggX6_count_X3_groupSize
set_option maxRecDepth 20000 in
theorem ggX6_count_X6_isPowered : GoodIn wsX6_count wsX6_isPowered := goodIn_r _ [28, 2, 116, 117, 118, 119, 120, 121, 122, 123, 124, 125, 126, 127, 128, 129, 130, 131, 132] (by decide +kernel) (by decide +kernel)
set_option maxRecDepth 20000 in
theorem gX6_count_X6_isPowered : GoodIn wsX6_count (wsV RX6 65 RX6 yX6_isPowered wsX6_isPowered) := goodIn_app (goodIn_of _ (by decide +kernel)) ggX6_count_X6_isPowered
set_option maxRecDepth 20000 in
theorem ggX6_count_X2_lines : GoodIn wsX6_count wsX2_lines := goodIn_r _ [33, 34, 139, 140, 141] (by decide +kernel) (by decide +kernel)
set_option maxRecDepth 20000 in
theorem gX6_count_X2_lines : GoodIn wsX6_count (wsV RX6 188 RX2 yX2_lines wsX2_lines) := goodIn_app (goodIn_of _ (by decide +kernel)) ggX6_count_X2_lines
set_option maxRecDepth 20000 in
theorem ggX6_count_X2_speed : GoodIn wsX6_count wsX2_speed := goodIn_r _ [38, 39, 139, 140, 141] (by decide +kernel) (by decide +kernel)
set_option maxRecDepth 20000 in
theorem gX6_count_X2_speed : GoodIn wsX6_count (wsV RX6 191 RX2 yX2_speed wsX2_speed) := goodIn_app (goodIn_of _ (by decide +kernel)) ggX6_count_X2_speed
set_option maxRecDepth 20000 in
theorem ggX6_count_X2_point : GoodIn wsX6_count wsX2_point := goodIn_r _ [43, 44, 139, 140, 141] (by decide +kernel) (by decide +kernel)
set_option maxRecDepth 20000 in
theorem gX6_count_X2_point : GoodIn wsX6_count (wsV RX6 194 RX2 yX2_point wsX2_point) := goodIn_app (goodIn_of _ (by decide +kernel)) ggX6_count_X2_point
set_option maxRecDepth 20000 in
theorem ggX6_count_X6_asNumber : GoodIn wsX6_count wsX6_asNumber := goodIn_r _ [47] (by decide +kernel) (by decide +kernel)
set_option maxRecDepth 20000 in
theorem gX6_count_X6_asNumber : GoodIn wsX6_count (va_wsS RX6 162 yX6_asNumber wsX6_asNumber) := goodIn_app (goodIn_of _ (by decide +kernel)) ggX6_count_X6_asNumber
set_option maxRecDepth 20000 in
theorem ggX6_count_X0_groupsLeft : GoodIn wsX6_count wsX0_groupsLeft := goodIn_r _ [52, 53, 142, 143, 144, 145, 146, 147] (by decide +kernel) (by decide +kernel)
set_option maxRecDepth 20000 in
theorem gX6_count_X0_groupsLeft : GoodIn wsX6_count (wsV RX6 207 RX0 yX0_groupsLeft wsX0_groupsLeft) := goodIn_app (goodIn_of _ (by decide +kernel)) ggX6_count_X0_groupsLeft
set_option maxRecDepth 20000 in
theorem ggX6_count_X3_tornBlocks : GoodIn wsX6_count wsX3_tornBlocks := goodIn_r _ [57, 18, 58, 59, 60, 16, 61, 62, 63, 64, 65, 66, 46, 27, 47, 133, 134, 135, 136, 137, 138] (by decide +kernel) (by decide +kernel)
set_option maxRecDepth 20000 in
theorem gX6_count_X3_tornBlocks : GoodIn wsX6_count (wsV RX6 210 RX3 yX3_tornBlocks wsX3_tornBlocks) := goodIn_app (goodIn_of _ (by decide +kernel)) ggX6_count_X3_tornBlocks
set_option maxRecDepth 20000 in
theorem ggX6_count_X1_length : GoodIn wsX6_count wsX1_length := goodIn_r _ [71, 72, 148, 149] (by decide +kernel) (by decide +kernel)
set_option maxRecDepth 20000 in
theorem gX6_count_X1_length : GoodIn wsX6_count (wsV RX6 86 RX1 yX1_length wsX1_length) := goodIn_app (goodIn_of _ (by decide +kernel)) ggX6_count_X1_length
set_option maxRecDepth 20000 in
theorem ggX6_count_X6_isStreaming : GoodIn wsX6_count wsX6_isStreaming := goodIn_r _ [76, 2, 116, 117, 118, 119, 120, 121, 122, 123, 124, 125, 126, 127, 128, 129, 130, 131, 132] (by decide +kernel) (by decide +kernel)
set_option maxRecDepth 20000 in
theorem gX6_count_X6_isStreaming : GoodIn wsX6_count (wsV RX6 213 RX6 yX6_isStreaming wsX6_isStreaming) := goodIn_app (goodIn_of _ (by decide +kernel)) ggX6_count_X6_isStreaming
set_option maxRecDepth 20000 in
theorem ggX6_count_X5_next : GoodIn wsX6_count wsX5_next := goodIn_r _ [81, 82, 150, 151, 152, 153, 154] (by decide +kernel) (by decide +kernel)
set_option maxRecDepth 20000 in
theorem gX6_count_X5_next : GoodIn wsX6_count (wsV RX6 120 RX5 yX5_next wsX5_next) := goodIn_app (goodIn_of _ (by decide +kernel)) ggX6_count_X5_next
end
section
set_option maxRecDepth 20000 in
theorem ggX6_count_X3_has : GoodIn wsX6_count wsX3_has := goodIn_r _ [66, 18, 133, 134, 135, 136, 137, 138] (by decide +kernel) (by decide +kernel)
set_option maxRecDepth 20000 in
theorem gX6_count_X3_has : GoodIn wsX6_count (wsV RX6 123 RX3 yX3_has wsX3_has) := goodIn_app (goodIn_of _ (by decide +kernel)) ggX6_count_X3_has
set_option maxRecDepth 20000 in
theorem ggX6_count_X5_isCounted : GoodIn wsX6_count wsX5_isCounted := goodIn_r _ [87, 88, 150, 151, 152, 153, 154] (by decide +kernel) (by decide +kernel)
set_option maxRecDepth 20000 in
theorem gX6_count_X5_isCounted : GoodIn wsX6_count (wsV RX6 216 RX5 yX5_isCounted wsX5_isCounted) := goodIn_app (goodIn_of _ (by decide +kernel)) ggX6_count_X5_isCounted
set_option maxRecDepth 20000 in
theorem ggX6_count_X5_left : GoodIn wsX6_count wsX5_left := goodIn_r _ [92, 93, 150, 151, 152, 153, 154] (by decide +kernel) (by decide +kernel)
set_option maxRecDepth 20000 in
theorem gX6_count_X5_left : GoodIn wsX6_count (wsV RX6 219 RX5 yX5_left wsX5_left) := goodIn_app (goodIn_of _ (by decide +kernel)) ggX6_count_X5_left
set_option maxRecDepth 20000 in
theorem ggX6_count_X3_filledBlocks : GoodIn wsX6_count wsX3_filledBlocks := goodIn_r _ [97, 18, 98, 99, 100, 101, 16, 102, 103, 63, 64, 65, 66, 46, 27, 47, 133, 134, 135, 136, 137, 138] (by decide +kernel) (by decide +kernel)
set_option maxRecDepth 20000 in
theorem gX6_count_X3_filledBlocks : GoodIn wsX6_count (wsV RX6 222 RX3 yX3_filledBlocks wsX3_filledBlocks) := goodIn_app (goodIn_of _ (by decide +kernel)) ggX6_count_X3_filledBlocks
set_option maxRecDepth 20000 in
theorem ggX6_count_X2_isInWindow : GoodIn wsX6_count wsX2_isInWindow := goodIn_r _ [107, 39, 44, 108, 109, 110, 111, 112, 113, 114, 115, 139, 140, 141] (by decide +kernel) (by decide +kernel)
set_option maxRecDepth 20000 in
theorem gX6_count_X2_isInWindow : GoodIn wsX6_count (wsV RX6 132 RX2 yX2_isInWindow wsX2_isInWindow) := goodIn_app (goodIn_of _ (by decide +kernel)) ggX6_count_X2_isInWindow
theorem dX6_count_0 : decode cX6_count 0 = .ok (.iload_n 1, 1) := by decide +kernel
theorem dX6_count_1 : decode cX6_count 1 = .ok (.tableswitch 295 0 18 #[91, 99, 107, 124, 129, 137, 145, 153, 161, 166, 171, 179, 187, 192, 197, 205, 242, 272, 280], 91) := by decide +kernel
theorem dX6_count_92 : decode cX6_count 92 = .ok (.aload_n 0, 1) := by decide +kernel
theorem dX6_count_93 : decode cX6_count 93 = .ok (.getfield 10, 3) := by decide +kernel
theorem dX6_count_96 : decode cX6_count 96 = .ok (.invokevirtual 181, 3) := by decide +kernel
theorem dX6_count_99 : decode cX6_count 99 = .ok (.ireturn, 1) := by decide +kernel
theorem dX6_count_100 : decode cX6_count 100 = .ok (.aload_n 0, 1) := by decide +kernel
theorem dX6_count_101 : decode cX6_count 101 = .ok (.getfield 10, 3) := by decide +kernel
theorem dX6_count_104 : decode cX6_count 104 = .ok (.invokevirtual 182, 3) := by decide +kernel
theorem dX6_count_107 : decode cX6_count 107 = .ok (.ireturn, 1) := by decide +kernel
theorem dX6_count_108 : decode cX6_count 108 = .ok (.aload_n 0, 1) := by decide +kernel
theorem dX6_count_109 : decode cX6_count 109 = .ok (.invokevirtual 65, 3) := by decide +kernel
theorem dX6_count_112 : decode cX6_count 112 = .ok (.ifCond .eq 10, 3) := by decide +kernel
theorem dX6_count_115 : decode cX6_count 115 = .ok (.aload_n 0, 1) := by decide +kernel
theorem dX6_count_116 : decode cX6_count 116 = .ok (.getfield 111, 3) := by decide +kernel
theorem dX6_count_119 : decode cX6_count 119 = .ok (.goto 5, 3) := by decide +kernel
theorem dX6_count_122 : decode cX6_count 122 = .ok (.bipush (-4), 2) := by decide +kernel
theorem dX6_count_124 : decode cX6_count 124 = .ok (.ireturn, 1) := by decide +kernel
theorem dX6_count_125 : decode cX6_count 125 = .ok (.aload_n 0, 1) := by decide +kernel
theorem dX6_count_126 : decode cX6_count 126 = .ok (.getfield 185, 3) := by decide +kernel
theorem dX6_count_129 : decode cX6_count 129 = .ok (.ireturn, 1) := by decide +kernel
theorem dX6_count_130 : decode cX6_count 130 = .ok (.aload_n 0, 1) := by decide +kernel
theorem dX6_count_131 : decode cX6_count 131 = .ok (.getfield 52, 3) := by decide +kernel
theorem dX6_count_134 : decode cX6_count 134 = .ok (.invokevirtual 188, 3) := by decide +kernel
theorem dX6_count_137 : decode cX6_count 137 = .ok (.ireturn, 1) := by decide +kernel
theorem dX6_count_138 : decode cX6_count 138 = .ok (.aload_n 0, 1) := by decide +kernel
theorem dX6_count_139 : decode cX6_count 139 = .ok (.getfield 52, 3) := by decide +kernel
theorem dX6_count_142 : decode cX6_count 142 = .ok (.invokevirtual 191, 3) := by decide +kernel
theorem dX6_count_145 : decode cX6_count 145 = .ok (.ireturn, 1) := by decide +kernel
theorem dX6_count_146 : decode cX6_count 146 = .ok (.aload_n 0, 1) := by decide +kernel
theorem dX6_count_147 : decode cX6_count 147 = .ok (.getfield 52, 3) := by decide +kernel
theorem dX6_count_150 : decode cX6_count 150 = .ok (.invokevirtual 194, 3) := by decide +kernel
theorem dX6_count_153 : decode cX6_count 153 = .ok (.ireturn, 1) := by decide +kernel
theorem dX6_count_154 : decode cX6_count 154 = .ok (.aload_n 0, 1) := by decide +kernel
theorem dX6_count_155 : decode cX6_count 155 = .ok (.getfield 197, 3) := by decide +kernel
theorem dX6_count_158 : decode cX6_count 158 = .ok (.invokestatic 162, 3) := by decide +kernel
theorem dX6_count_161 : decode cX6_count 161 = .ok (.ireturn, 1) := by decide +kernel
theorem dX6_count_162 : decode cX6_count 162 = .ok (.aload_n 0, 1) := by decide +kernel
theorem dX6_count_163 : decode cX6_count 163 = .ok (.getfield 201, 3) := by decide +kernel
theorem dX6_count_166 : decode cX6_count 166 = .ok (.ireturn, 1) := by decide +kernel
theorem dX6_count_167 : decode cX6_count 167 = .ok (.aload_n 0, 1) := by decide +kernel
theorem dX6_count_168 : decode cX6_count 168 = .ok (.getfield 204, 3) := by decide +kernel
theorem dX6_count_171 : decode cX6_count 171 = .ok (.ireturn, 1) := by decide +kernel
theorem dX6_count_172 : decode cX6_count 172 = .ok (.aload_n 0, 1) := by decide +kernel
theorem dX6_count_173 : decode cX6_count 173 = .ok (.getfield 38, 3) := by decide +kernel
theorem dX6_count_176 : decode cX6_count 176 = .ok (.invokevirtual 207, 3) := by decide +kernel
theorem dX6_count_179 : decode cX6_count 179 = .ok (.ireturn, 1) := by decide +kernel
theorem dX6_count_180 : decode cX6_count 180 = .ok (.aload_n 0, 1) := by decide +kernel
theorem dX6_count_181 : decode cX6_count 181 = .ok (.getfield 10, 3) := by decide +kernel
theorem dX6_count_184 : decode cX6_count 184 = .ok (.invokevirtual 210, 3) := by decide +kernel
theorem dX6_count_187 : decode cX6_count 187 = .ok (.ireturn, 1) := by decide +kernel
theorem dX6_count_188 : decode cX6_count 188 = .ok (.aload_n 0, 1) := by decide +kernel
theorem dX6_count_189 : decode cX6_count 189 = .ok (.getfield 153, 3) := by decide +kernel
theorem dX6_count_192 : decode cX6_count 192 = .ok (.ireturn, 1) := by decide +kernel
theorem dX6_count_193 : decode cX6_count 193 = .ok (.aload_n 0, 1) := by decide +kernel
theorem dX6_count_194 : decode cX6_count 194 = .ok (.getfield 78, 3) := by decide +kernel
theorem dX6_count_197 : decode cX6_count 197 = .ok (.ireturn, 1) := by decide +kernel
theorem dX6_count_198 : decode cX6_count 198 = .ok (.aload_n 0, 1) := by decide +kernel
theorem dX6_count_199 : decode cX6_count 199 = .ok (.getfield 21, 3) := by decide +kernel
theorem dX6_count_202 : decode cX6_count 202 = .ok (.invokevirtual 86, 3) := by decide +kernel
theorem dX6_count_205 : decode cX6_count 205 = .ok (.ireturn, 1) := by decide +kernel
theorem dX6_count_206 : decode cX6_count 206 = .ok (.aload_n 0, 1) := by decide +kernel
theorem dX6_count_207 : decode cX6_count 207 = .ok (.invokevirtual 213, 3) := by decide +kernel
theorem dX6_count_210 : decode cX6_count 210 = .ok (.ifCond .eq 30, 3) := by decide +kernel
theorem dX6_count_213 : decode cX6_count 213 = .ok (.aload_n 0, 1) := by decide +kernel
theorem dX6_count_214 : decode cX6_count 214 = .ok (.getfield 10, 3) := by decide +kernel
theorem dX6_count_217 : decode cX6_count 217 = .ok (.aload_n 0, 1) := by decide +kernel
theorem dX6_count_218 : decode cX6_count 218 = .ok (.getfield 45, 3) := by decide +kernel
theorem dX6_count_221 : decode cX6_count 221 = .ok (.invokevirtual 120, 3) := by decide +kernel
theorem dX6_count_224 : decode cX6_count 224 = .ok (.invokevirtual 123, 3) := by decide +kernel
theorem dX6_count_227 : decode cX6_count 227 = .ok (.ifCond .eq 13, 3) := by decide +kernel
theorem dX6_count_230 : decode cX6_count 230 = .ok (.aload_n 0, 1) := by decide +kernel
theorem dX6_count_231 : decode cX6_count 231 = .ok (.getfield 45, 3) := by decide +kernel
theorem dX6_count_234 : decode cX6_count 234 = .ok (.invokevirtual 120, 3) := by decide +kernel
theorem dX6_count_237 : decode cX6_count 237 = .ok (.goto 5, 3) := by decide +kernel
theorem dX6_count_240 : decode cX6_count 240 = .ok (.bipush (-4), 2) := by decide +kernel
theorem dX6_count_242 : decode cX6_count 242 = .ok (.ireturn, 1) := by decide +kernel
theorem dX6_count_243 : decode cX6_count 243 = .ok (.aload_n 0, 1) := by decide +kernel
theorem dX6_count_244 : decode cX6_count 244 = .ok (.invokevirtual 213, 3) := by decide +kernel
theorem dX6_count_247 : decode cX6_count 247 = .ok (.ifCond .eq 23, 3) := by decide +kernel
theorem dX6_count_250 : decode cX6_count 250 = .ok (.aload_n 0, 1) := by decide +kernel
theorem dX6_count_251 : decode cX6_count 251 = .ok (.getfield 45, 3) := by decide +kernel
theorem dX6_count_254 : decode cX6_count 254 = .ok (.invokevirtual 216, 3) := by decide +kernel
theorem dX6_count_257 : decode cX6_count 257 = .ok (.ifCond .eq 13, 3) := by decide +kernel
theorem dX6_count_260 : decode cX6_count 260 = .ok (.aload_n 0, 1) := by decide +kernel
theorem dX6_count_261 : decode cX6_count 261 = .ok (.getfield 45, 3) := by decide +kernel
theorem dX6_count_264 : decode cX6_count 264 = .ok (.invokevirtual 219, 3) := by decide +kernel
theorem dX6_count_267 : decode cX6_count 267 = .ok (.goto 5, 3) := by decide +kernel
theorem dX6_count_270 : decode cX6_count 270 = .ok (.bipush (-4), 2) := by decide +kernel
theorem dX6_count_272 : decode cX6_count 272 = .ok (.ireturn, 1) := by decide +kernel
theorem dX6_count_273 : decode cX6_count 273 = .ok (.aload_n 0, 1) := by decide +kernel
theorem dX6_count_274 : decode cX6_count 274 = .ok (.getfield 10, 3) := by decide +kernel
theorem dX6_count_277 : decode cX6_count 277 = .ok (.invokevirtual 222, 3) := by decide +kernel
theorem dX6_count_280 : decode cX6_count 280 = .ok (.ireturn, 1) := by decide +kernel
theorem dX6_count_281 : decode cX6_count 281 = .ok (.aload_n 0, 1) := by decide +kernel
theorem dX6_count_282 : decode cX6_count 282 = .ok (.getfield 52, 3) := by decide +kernel
theorem dX6_count_285 : decode cX6_count 285 = .ok (.aload_n 0, 1) := by decide +kernel
theorem dX6_count_286 : decode cX6_count 286 = .ok (.getfield 78, 3) := by decide +kernel
theorem dX6_count_289 : decode cX6_count 289 = .ok (.invokevirtual 132, 3) := by decide +kernel
theorem dX6_count_292 : decode cX6_count 292 = .ok (.invokestatic 162, 3) := by decide +kernel
theorem dX6_count_295 : decode cX6_count 295 = .ok (.ireturn, 1) := by decide +kernel
theorem dX6_count_296 : decode cX6_count 296 = .ok (.iconst (-1), 1) := by decide +kernel
theorem dX6_count_297 : decode cX6_count 297 = .ok (.ireturn, 1) := by decide +kernel
theorem dX6_isOutside_0 : decode cX6_isOutside 0 = .ok (.iload_n 0, 1) := by decide +kernel
theorem dX6_isOutside_1 : decode cX6_isOutside 1 = .ok (.iload_n 1, 1) := by decide +kernel
theorem dX6_isOutside_2 : decode cX6_isOutside 2 = .ok (.if_icmp .lt 8, 3) := by decide +kernel
theorem dX6_isOutside_5 : decode cX6_isOutside 5 = .ok (.iload_n 0, 1) := by decide +kernel
theorem dX6_isOutside_6 : decode cX6_isOutside 6 = .ok (.iload_n 2, 1) := by decide +kernel
theorem dX6_isOutside_7 : decode cX6_isOutside 7 = .ok (.if_icmp .le 7, 3) := by decide +kernel
theorem dX6_isOutside_10 : decode cX6_isOutside 10 = .ok (.iconst 1, 1) := by decide +kernel
theorem dX6_isOutside_11 : decode cX6_isOutside 11 = .ok (.goto 4, 3) := by decide +kernel
theorem dX6_isOutside_14 : decode cX6_isOutside 14 = .ok (.iconst 0, 1) := by decide +kernel
theorem dX6_isOutside_15 : decode cX6_isOutside 15 = .ok (.ireturn, 1) := by decide +kernel
set_option maxRecDepth 20000 in
theorem ggX6_isNoCommand_X6_isOutside : GoodIn wsX6_isNoCommand wsX6_isOutside := goodIn_r _ [5] (by decide +kernel) (by decide +kernel)
set_option maxRecDepth 20000 in
theorem gX6_isNoCommand_X6_isOutside : GoodIn wsX6_isNoCommand (va_wsS RX6 60 yX6_isOutside wsX6_isOutside) := goodIn_app (goodIn_of _ (by decide +kernel)) ggX6_isNoCommand_X6_isOutside
theorem dX6_isNoCommand_0 : decode cX6_isNoCommand 0 = .ok (.iload_n 0, 1) := by decide +kernel
theorem dX6_isNoCommand_1 : decode cX6_isNoCommand 1 = .ok (.iconst 0, 1) := by decide +kernel
theorem dX6_isNoCommand_2 : decode cX6_isNoCommand 2 = .ok (.bipush 63, 2) := by decide +kernel
theorem dX6_isNoCommand_4 : decode cX6_isNoCommand 4 = .ok (.invokestatic 60, 3) := by decide +kernel
theorem dX6_isNoCommand_7 : decode cX6_isNoCommand 7 = .ok (.ifCond .ne 13, 3) := by decide +kernel
theorem dX6_isNoCommand_10 : decode cX6_isNoCommand 10 = .ok (.iload_n 1, 1) := by decide +kernel
theorem dX6_isNoCommand_11 : decode cX6_isNoCommand 11 = .ok (.iconst 0, 1) := by decide +kernel
theorem dX6_isNoCommand_12 : decode cX6_isNoCommand 12 = .ok (.ldc 64, 2) := by decide +kernel
theorem dX6_isNoCommand_14 : decode cX6_isNoCommand 14 = .ok (.invokestatic 60, 3) := by decide +kernel
theorem dX6_isNoCommand_17 : decode cX6_isNoCommand 17 = .ok (.ifCond .eq 7, 3) := by decide +kernel
theorem dX6_isNoCommand_20 : decode cX6_isNoCommand 20 = .ok (.iconst 1, 1) := by decide +kernel
theorem dX6_isNoCommand_21 : decode cX6_isNoCommand 21 = .ok (.goto 4, 3) := by decide +kernel
theorem dX6_isNoCommand_24 : decode cX6_isNoCommand 24 = .ok (.iconst 0, 1) := by decide +kernel
theorem dX6_isNoCommand_25 : decode cX6_isNoCommand 25 = .ok (.ireturn, 1) := by decide +kernel
theorem dX6_asNumber_0 : decode cX6_asNumber 0 = .ok (.iload_n 0, 1) := by decide +kernel
theorem dX6_asNumber_1 : decode cX6_asNumber 1 = .ok (.ifCond .eq 7, 3) := by decide +kernel
theorem dX6_asNumber_4 : decode cX6_asNumber 4 = .ok (.iconst 1, 1) := by decide +kernel
theorem dX6_asNumber_5 : decode cX6_asNumber 5 = .ok (.goto 4, 3) := by decide +kernel
theorem dX6_asNumber_8 : decode cX6_asNumber 8 = .ok (.iconst 0, 1) := by decide +kernel
theorem dX6_asNumber_9 : decode cX6_asNumber 9 = .ok (.ireturn, 1) := by decide +kernel
set_option maxRecDepth 20000 in
theorem ggX6_commandCheck_X6_checkOfBits : GoodIn wsX6_commandCheck wsX6_checkOfBits := goodIn_r _ [5] (by decide +kernel) (by decide +kernel)
set_option maxRecDepth 20000 in
theorem gX6_commandCheck_X6_checkOfBits : GoodIn wsX6_commandCheck (va_wsS RX6 226 yX6_checkOfBits wsX6_checkOfBits) := goodIn_app (goodIn_of _ (by decide +kernel)) ggX6_commandCheck_X6_checkOfBits
theorem dX6_commandCheck_0 : decode cX6_commandCheck 0 = .ok (.ldc 225, 2) := by decide +kernel
theorem dX6_commandCheck_2 : decode cX6_commandCheck 2 = .ok (.iload_n 0, 1) := by decide +kernel
theorem dX6_commandCheck_3 : decode cX6_commandCheck 3 = .ok (.imul, 1) := by decide +kernel
theorem dX6_commandCheck_4 : decode cX6_commandCheck 4 = .ok (.iload_n 1, 1) := by decide +kernel
theorem dX6_commandCheck_5 : decode cX6_commandCheck 5 = .ok (.iadd, 1) := by decide +kernel
theorem dX6_commandCheck_6 : decode cX6_commandCheck 6 = .ok (.bipush 22, 2) := by decide +kernel
theorem dX6_commandCheck_8 : decode cX6_commandCheck 8 = .ok (.invokestatic 226, 3) := by decide +kernel
theorem dX6_commandCheck_11 : decode cX6_commandCheck 11 = .ok (.ireturn, 1) := by decide +kernel
set_option maxRecDepth 20000 in
theorem ggX6_contentCheck_X6_checkOfBits : GoodIn wsX6_contentCheck wsX6_checkOfBits := goodIn_r _ [4] (by decide +kernel) (by decide +kernel)
set_option maxRecDepth 20000 in
theorem gX6_contentCheck_X6_checkOfBits : GoodIn wsX6_contentCheck (va_wsS RX6 226 yX6_checkOfBits wsX6_checkOfBits) := goodIn_app (goodIn_of _ (by decide +kernel)) ggX6_contentCheck_X6_checkOfBits
theorem dX6_contentCheck_0 : decode cX6_contentCheck 0 = .ok (.iload_n 0, 1) := by decide +kernel
theorem dX6_contentCheck_1 : decode cX6_contentCheck 1 = .ok (.bipush 16, 2) := by decide +kernel
theorem dX6_contentCheck_3 : decode cX6_contentCheck 3 = .ok (.invokestatic 226, 3) := by decide +kernel
theorem dX6_contentCheck_6 : decode cX6_contentCheck 6 = .ok (.ireturn, 1) := by decide +kernel
theorem dX6_checkOfBits_0 : decode cX6_checkOfBits 0 = .ok (.iconst 0, 1) := by decide +kernel
theorem dX6_checkOfBits_1 : decode cX6_checkOfBits 1 = .ok (.istore_n 2, 1) := by decide +kernel
theorem dX6_checkOfBits_2 : decode cX6_checkOfBits 2 = .ok (.iload_n 1, 1) := by decide +kernel
theorem dX6_checkOfBits_3 : decode cX6_checkOfBits 3 = .ok (.iconst 1, 1) := by decide +kernel
theorem dX6_checkOfBits_4 : decode cX6_checkOfBits 4 = .ok (.isub, 1) := by decide +kernel
theorem dX6_checkOfBits_5 : decode cX6_checkOfBits 5 = .ok (.istore_n 3, 1) := by decide +kernel
theorem dX6_checkOfBits_6 : decode cX6_checkOfBits 6 = .ok (.iload_n 3, 1) := by decide +kernel
theorem dX6_checkOfBits_7 : decode cX6_checkOfBits 7 = .ok (.ifCond .lt 34, 3) := by decide +kernel
theorem dX6_checkOfBits_10 : decode cX6_checkOfBits 10 = .ok (.iload_n 0, 1) := by decide +kernel
theorem dX6_checkOfBits_11 : decode cX6_checkOfBits 11 = .ok (.iload_n 3, 1) := by decide +kernel
theorem dX6_checkOfBits_12 : decode cX6_checkOfBits 12 = .ok (.ishr, 1) := by decide +kernel
theorem dX6_checkOfBits_13 : decode cX6_checkOfBits 13 = .ok (.iconst 1, 1) := by decide +kernel
theorem dX6_checkOfBits_14 : decode cX6_checkOfBits 14 = .ok (.iand, 1) := by decide +kernel
theorem dX6_checkOfBits_15 : decode cX6_checkOfBits 15 = .ok (.istore 4, 2) := by decide +kernel
theorem dX6_checkOfBits_17 : decode cX6_checkOfBits 17 = .ok (.iload_n 2, 1) := by decide +kernel
theorem dX6_checkOfBits_18 : decode cX6_checkOfBits 18 = .ok (.iconst 1, 1) := by decide +kernel
theorem dX6_checkOfBits_19 : decode cX6_checkOfBits 19 = .ok (.ishl, 1) := by decide +kernel
theorem dX6_checkOfBits_20 : decode cX6_checkOfBits 20 = .ok (.bipush 127, 2) := by decide +kernel
theorem dX6_checkOfBits_22 : decode cX6_checkOfBits 22 = .ok (.iand, 1) := by decide +kernel
theorem dX6_checkOfBits_23 : decode cX6_checkOfBits 23 = .ok (.bipush 9, 2) := by decide +kernel
theorem dX6_checkOfBits_25 : decode cX6_checkOfBits 25 = .ok (.iload 4, 2) := by decide +kernel
theorem dX6_checkOfBits_27 : decode cX6_checkOfBits 27 = .ok (.iload_n 2, 1) := by decide +kernel
theorem dX6_checkOfBits_28 : decode cX6_checkOfBits 28 = .ok (.bipush 6, 2) := by decide +kernel
theorem dX6_checkOfBits_30 : decode cX6_checkOfBits 30 = .ok (.ishr, 1) := by decide +kernel
theorem dX6_checkOfBits_31 : decode cX6_checkOfBits 31 = .ok (.ixor, 1) := by decide +kernel
theorem dX6_checkOfBits_32 : decode cX6_checkOfBits 32 = .ok (.imul, 1) := by decide +kernel
theorem dX6_checkOfBits_33 : decode cX6_checkOfBits 33 = .ok (.ixor, 1) := by decide +kernel
theorem dX6_checkOfBits_34 : decode cX6_checkOfBits 34 = .ok (.istore_n 2, 1) := by decide +kernel
theorem dX6_checkOfBits_35 : decode cX6_checkOfBits 35 = .ok (.iinc 3 (-1), 3) := by decide +kernel
theorem dX6_checkOfBits_38 : decode cX6_checkOfBits 38 = .ok (.goto (-32), 3) := by decide +kernel
theorem dX6_checkOfBits_41 : decode cX6_checkOfBits 41 = .ok (.iload_n 2, 1) := by decide +kernel
theorem dX6_checkOfBits_42 : decode cX6_checkOfBits 42 = .ok (.ireturn, 1) := by decide +kernel
set_option maxRecDepth 20000 in
theorem ggX6_statesOf_X6_isBarredByLock : GoodIn wsX6_statesOf wsX6_isBarredByLock := goodIn_r _ [4] (by decide +kernel) (by decide +kernel)
set_option maxRecDepth 20000 in
theorem gX6_statesOf_X6_isBarredByLock : GoodIn wsX6_statesOf (va_wsS RX6 229 yX6_isBarredByLock wsX6_isBarredByLock) := goodIn_app (goodIn_of _ (by decide +kernel)) ggX6_statesOf_X6_isBarredByLock
theorem dX6_statesOf_0 : decode cX6_statesOf 0 = .ok (.iload_n 0, 1) := by decide +kernel
theorem dX6_statesOf_1 : decode cX6_statesOf 1 = .ok (.lookupswitch 99 #[(0, 75), (1, 79), (2, 81), (3, 83), (7, 86), (12, 93), (13, 89), (42, 96)], 75) := by decide +kernel
theorem dX6_statesOf_76 : decode cX6_statesOf 76 = .ok (.sipush 255, 3) := by decide +kernel
theorem dX6_statesOf_79 : decode cX6_statesOf 79 = .ok (.ireturn, 1) := by decide +kernel
theorem dX6_statesOf_80 : decode cX6_statesOf 80 = .ok (.iconst 1, 1) := by decide +kernel
theorem dX6_statesOf_81 : decode cX6_statesOf 81 = .ok (.ireturn, 1) := by decide +kernel
theorem dX6_statesOf_82 : decode cX6_statesOf 82 = .ok (.iconst 2, 1) := by decide +kernel
theorem dX6_statesOf_83 : decode cX6_statesOf 83 = .ok (.ireturn, 1) := by decide +kernel
theorem dX6_statesOf_84 : decode cX6_statesOf 84 = .ok (.bipush 12, 2) := by decide +kernel
theorem dX6_statesOf_86 : decode cX6_statesOf 86 = .ok (.ireturn, 1) := by decide +kernel
theorem dX6_statesOf_87 : decode cX6_statesOf 87 = .ok (.bipush 24, 2) := by decide +kernel
theorem dX6_statesOf_89 : decode cX6_statesOf 89 = .ok (.ireturn, 1) := by decide +kernel
theorem dX6_statesOf_90 : decode cX6_statesOf 90 = .ok (.sipush 248, 3) := by decide +kernel
theorem dX6_statesOf_93 : decode cX6_statesOf 93 = .ok (.ireturn, 1) := by decide +kernel
theorem dX6_statesOf_94 : decode cX6_statesOf 94 = .ok (.bipush 96, 2) := by decide +kernel
theorem dX6_statesOf_96 : decode cX6_statesOf 96 = .ok (.ireturn, 1) := by decide +kernel
theorem dX6_statesOf_97 : decode cX6_statesOf 97 = .ok (.bipush 16, 2) := by decide +kernel
theorem dX6_statesOf_99 : decode cX6_statesOf 99 = .ok (.ireturn, 1) := by decide +kernel
theorem dX6_statesOf_100 : decode cX6_statesOf 100 = .ok (.iload_n 0, 1) := by decide +kernel
theorem dX6_statesOf_101 : decode cX6_statesOf 101 = .ok (.invokestatic 229, 3) := by decide +kernel
theorem dX6_statesOf_104 : decode cX6_statesOf 104 = .ok (.ifCond .eq 8, 3) := by decide +kernel
theorem dX6_statesOf_107 : decode cX6_statesOf 107 = .ok (.bipush 16, 2) := by decide +kernel
theorem dX6_statesOf_109 : decode cX6_statesOf 109 = .ok (.goto 4, 3) := by decide +kernel
theorem dX6_statesOf_112 : decode cX6_statesOf 112 = .ok (.iconst 0, 1) := by decide +kernel
theorem dX6_statesOf_113 : decode cX6_statesOf 113 = .ok (.ireturn, 1) := by decide +kernel
theorem dX6_isBarredByLock_0 : decode cX6_isBarredByLock 0 = .ok (.iload_n 0, 1) := by decide +kernel
theorem dX6_isBarredByLock_1 : decode cX6_isBarredByLock 1 = .ok (.tableswitch 149 6 38 #[147, 149, 149, 149, 149, 149, 149, 149, 149, 149, 149, 147, 147, 149, 149, 147, 147, 147, 147, 147, 149, 149, 149, 149, 149, 149, 147, 147, 149, 149, 149, 149, 147], 147) := by decide +kernel
theorem dX6_isBarredByLock_148 : decode cX6_isBarredByLock 148 = .ok (.iconst 1, 1) := by decide +kernel
theorem dX6_isBarredByLock_149 : decode cX6_isBarredByLock 149 = .ok (.ireturn, 1) := by decide +kernel
theorem dX6_isBarredByLock_150 : decode cX6_isBarredByLock 150 = .ok (.iconst 0, 1) := by decide +kernel
theorem dX6_isBarredByLock_151 : decode cX6_isBarredByLock 151 = .ok (.ireturn, 1) := by decide +kernel
set_option maxRecDepth 20000 in
theorem ggX6_middleOfLongestRow_X6_rowLength : GoodIn wsX6_middleOfLongestRow wsX6_rowLength := goodIn_r _ [4] (by decide +kernel) (by decide +kernel)
set_option maxRecDepth 20000 in
theorem gX6_middleOfLongestRow_X6_rowLength : GoodIn wsX6_middleOfLongestRow (va_wsS RX6 232 yX6_rowLength wsX6_rowLength) := goodIn_app (goodIn_of _ (by decide +kernel)) ggX6_middleOfLongestRow_X6_rowLength
theorem dX6_middleOfLongestRow_0 : decode cX6_middleOfLongestRow 0 = .ok (.iconst 0, 1) := by decide +kernel
theorem dX6_middleOfLongestRow_1 : decode cX6_middleOfLongestRow 1 = .ok (.istore_n 1, 1) := by decide +kernel
theorem dX6_middleOfLongestRow_2 : decode cX6_middleOfLongestRow 2 = .ok (.iconst 0, 1) := by decide +kernel
theorem dX6_middleOfLongestRow_3 : decode cX6_middleOfLongestRow 3 = .ok (.istore_n 2, 1) := by decide +kernel
theorem dX6_middleOfLongestRow_4 : decode cX6_middleOfLongestRow 4 = .ok (.iconst 0, 1) := by decide +kernel
theorem dX6_middleOfLongestRow_5 : decode cX6_middleOfLongestRow 5 = .ok (.istore_n 3, 1) := by decide +kernel
theorem dX6_middleOfLongestRow_6 : decode cX6_middleOfLongestRow 6 = .ok (.iload_n 3, 1) := by decide +kernel
theorem dX6_middleOfLongestRow_7 : decode cX6_middleOfLongestRow 7 = .ok (.bipush 16, 2) := by decide +kernel
theorem dX6_middleOfLongestRow_9 : decode cX6_middleOfLongestRow 9 = .ok (.if_icmp .ge 27, 3) := by decide +kernel
theorem dX6_middleOfLongestRow_12 : decode cX6_middleOfLongestRow 12 = .ok (.iload_n 0, 1) := by decide +kernel
theorem dX6_middleOfLongestRow_13 : decode cX6_middleOfLongestRow 13 = .ok (.iload_n 3, 1) := by decide +kernel
theorem dX6_middleOfLongestRow_14 : decode cX6_middleOfLongestRow 14 = .ok (.invokestatic 232, 3) := by decide +kernel
theorem dX6_middleOfLongestRow_17 : decode cX6_middleOfLongestRow 17 = .ok (.istore 4, 2) := by decide +kernel
theorem dX6_middleOfLongestRow_19 : decode cX6_middleOfLongestRow 19 = .ok (.iload 4, 2) := by decide +kernel
theorem dX6_middleOfLongestRow_21 : decode cX6_middleOfLongestRow 21 = .ok (.iload_n 2, 1) := by decide +kernel
theorem dX6_middleOfLongestRow_22 : decode cX6_middleOfLongestRow 22 = .ok (.if_icmp .le 8, 3) := by decide +kernel
theorem dX6_middleOfLongestRow_25 : decode cX6_middleOfLongestRow 25 = .ok (.iload_n 3, 1) := by decide +kernel
theorem dX6_middleOfLongestRow_26 : decode cX6_middleOfLongestRow 26 = .ok (.istore_n 1, 1) := by decide +kernel
theorem dX6_middleOfLongestRow_27 : decode cX6_middleOfLongestRow 27 = .ok (.iload 4, 2) := by decide +kernel
theorem dX6_middleOfLongestRow_29 : decode cX6_middleOfLongestRow 29 = .ok (.istore_n 2, 1) := by decide +kernel
theorem dX6_middleOfLongestRow_30 : decode cX6_middleOfLongestRow 30 = .ok (.iinc 3 1, 3) := by decide +kernel
theorem dX6_middleOfLongestRow_33 : decode cX6_middleOfLongestRow 33 = .ok (.goto (-27), 3) := by decide +kernel
theorem dX6_middleOfLongestRow_36 : decode cX6_middleOfLongestRow 36 = .ok (.iload_n 1, 1) := by decide +kernel
theorem dX6_middleOfLongestRow_37 : decode cX6_middleOfLongestRow 37 = .ok (.iload_n 2, 1) := by decide +kernel
theorem dX6_middleOfLongestRow_38 : decode cX6_middleOfLongestRow 38 = .ok (.iconst 1, 1) := by decide +kernel
theorem dX6_middleOfLongestRow_39 : decode cX6_middleOfLongestRow 39 = .ok (.isub, 1) := by decide +kernel
theorem dX6_middleOfLongestRow_40 : decode cX6_middleOfLongestRow 40 = .ok (.iconst 2, 1) := by decide +kernel
theorem dX6_middleOfLongestRow_41 : decode cX6_middleOfLongestRow 41 = .ok (.idiv, 1) := by decide +kernel
theorem dX6_middleOfLongestRow_42 : decode cX6_middleOfLongestRow 42 = .ok (.iadd, 1) := by decide +kernel
theorem dX6_middleOfLongestRow_43 : decode cX6_middleOfLongestRow 43 = .ok (.bipush 16, 2) := by decide +kernel
theorem dX6_middleOfLongestRow_45 : decode cX6_middleOfLongestRow 45 = .ok (.irem, 1) := by decide +kernel
theorem dX6_middleOfLongestRow_46 : decode cX6_middleOfLongestRow 46 = .ok (.ireturn, 1) := by decide +kernel
theorem dX6_rowLength_0 : decode cX6_rowLength 0 = .ok (.iconst 0, 1) := by decide +kernel
theorem dX6_rowLength_1 : decode cX6_rowLength 1 = .ok (.istore_n 2, 1) := by decide +kernel
theorem dX6_rowLength_2 : decode cX6_rowLength 2 = .ok (.iload_n 2, 1) := by decide +kernel
theorem dX6_rowLength_3 : decode cX6_rowLength 3 = .ok (.bipush 16, 2) := by decide +kernel
theorem dX6_rowLength_5 : decode cX6_rowLength 5 = .ok (.if_icmp .ge 23, 3) := by decide +kernel
theorem dX6_rowLength_8 : decode cX6_rowLength 8 = .ok (.iload_n 0, 1) := by decide +kernel
theorem dX6_rowLength_9 : decode cX6_rowLength 9 = .ok (.iload_n 1, 1) := by decide +kernel
theorem dX6_rowLength_10 : decode cX6_rowLength 10 = .ok (.iload_n 2, 1) := by decide +kernel
theorem dX6_rowLength_11 : decode cX6_rowLength 11 = .ok (.iadd, 1) := by decide +kernel
theorem dX6_rowLength_12 : decode cX6_rowLength 12 = .ok (.bipush 16, 2) := by decide +kernel
theorem dX6_rowLength_14 : decode cX6_rowLength 14 = .ok (.irem, 1) := by decide +kernel
theorem dX6_rowLength_15 : decode cX6_rowLength 15 = .ok (.ishr, 1) := by decide +kernel
theorem dX6_rowLength_16 : decode cX6_rowLength 16 = .ok (.iconst 1, 1) := by decide +kernel
theorem dX6_rowLength_17 : decode cX6_rowLength 17 = .ok (.iand, 1) := by decide +kernel
theorem dX6_rowLength_18 : decode cX6_rowLength 18 = .ok (.iconst 1, 1) := by decide +kernel
theorem dX6_rowLength_19 : decode cX6_rowLength 19 = .ok (.if_icmp .ne 9, 3) := by decide +kernel
theorem dX6_rowLength_22 : decode cX6_rowLength 22 = .ok (.iinc 2 1, 3) := by decide +kernel
theorem dX6_rowLength_25 : decode cX6_rowLength 25 = .ok (.goto (-23), 3) := by decide +kernel
theorem dX6_rowLength_28 : decode cX6_rowLength 28 = .ok (.iload_n 2, 1) := by decide +kernel
theorem dX6_rowLength_29 : decode cX6_rowLength 29 = .ok (.ireturn, 1) := by decide +kernel
set_option maxRecDepth 20000 in
theorem ggX6_renew_X3_clear : GoodIn wsX6_renew wsX3_clear := goodIn_r _ [11, 12, 13, 14, 15, 16, 17, 18, 19, 20, 21, 22, 23, 24, 102, 103, 104, 105, 106, 107] (by decide +kernel) (by decide +kernel)
set_option maxRecDepth 20000 in
theorem gX6_renew_X3_clear : GoodIn wsX6_renew (wsV RX6 241 RX3 yX3_clear wsX3_clear) := goodIn_app (goodIn_of _ (by decide +kernel)) ggX6_renew_X3_clear
set_option maxRecDepth 20000 in
theorem ggX6_renew_X1_empty : GoodIn wsX6_renew wsX1_empty := goodIn_r _ [29, 30, 108, 109] (by decide +kernel) (by decide +kernel)
set_option maxRecDepth 20000 in
theorem gX6_renew_X1_empty : GoodIn wsX6_renew (wsV RX6 90 RX1 yX1_empty wsX1_empty) := goodIn_app (goodIn_of _ (by decide +kernel)) ggX6_renew_X1_empty
set_option maxRecDepth 20000 in
theorem ggX6_renew_X6_goDark : GoodIn wsX6_renew wsX6_goDark := goodIn_r _ [35, 36, 37, 38, 39, 40, 41, 42, 43, 44, 45, 46, 47, 48, 49, 50, 51, 52, 53, 54, 55, 56, 57, 58, 59, 60, 61, 62, 63, 64, 65, 66, 67, 68, 69, 70, 71, 72, 73, 74, 75, 76, 77, 78, 79, 80, 81, 82, 83, 84, 85, 86, 87, 88, 89, 90, 91, 92, 93, 94, 95, 96, 97, 98, 99, 100, 101, 110, 111, 112, 113, 114, 115, 116, 117, 118, 119, 120, 121, 122, 123, 124, 125, 126, 127] (by decide +kernel) (by decide +kernel)
set_option maxRecDepth 20000 in
theorem gX6_renew_X6_goDark : GoodIn wsX6_renew (wsV RX6 75 RX6 yX6_goDark wsX6_goDark) := goodIn_app (goodIn_of _ (by decide +kernel)) ggX6_renew_X6_goDark
theorem dX6_renew_0 : decode cX6_renew 0 = .ok (.aload_n 0, 1) := by decide +kernel
theorem dX6_renew_1 : decode cX6_renew 1 = .ok (.iload_n 3, 1) := by decide +kernel
theorem dX6_renew_2 : decode cX6_renew 2 = .ok (.putfield 235, 3) := by decide +kernel
theorem dX6_renew_5 : decode cX6_renew 5 = .ok (.aload_n 0, 1) := by decide +kernel
theorem dX6_renew_6 : decode cX6_renew 6 = .ok (.iload 4, 2) := by decide +kernel
theorem dX6_renew_8 : decode cX6_renew 8 = .ok (.putfield 238, 3) := by decide +kernel
theorem dX6_renew_11 : decode cX6_renew 11 = .ok (.aload_n 0, 1) := by decide +kernel
theorem dX6_renew_12 : decode cX6_renew 12 = .ok (.getfield 10, 3) := by decide +kernel
theorem dX6_renew_15 : decode cX6_renew 15 = .ok (.iload_n 1, 1) := by decide +kernel
theorem dX6_renew_16 : decode cX6_renew 16 = .ok (.iload_n 2, 1) := by decide +kernel
theorem dX6_renew_17 : decode cX6_renew 17 = .ok (.invokevirtual 241, 3) := by decide +kernel
theorem dX6_renew_20 : decode cX6_renew 20 = .ok (.aload_n 0, 1) := by decide +kernel
theorem dX6_renew_21 : decode cX6_renew 21 = .ok (.getfield 25, 3) := by decide +kernel
theorem dX6_renew_24 : decode cX6_renew 24 = .ok (.invokevirtual 90, 3) := by decide +kernel
theorem dX6_renew_27 : decode cX6_renew 27 = .ok (.aload_n 0, 1) := by decide +kernel
theorem dX6_renew_28 : decode cX6_renew 28 = .ok (.iconst 0, 1) := by decide +kernel
theorem dX6_renew_29 : decode cX6_renew 29 = .ok (.putfield 204, 3) := by decide +kernel
theorem dX6_renew_32 : decode cX6_renew 32 = .ok (.aload_n 0, 1) := by decide +kernel
theorem dX6_renew_33 : decode cX6_renew 33 = .ok (.iconst 0, 1) := by decide +kernel
theorem dX6_renew_34 : decode cX6_renew 34 = .ok (.putfield 153, 3) := by decide +kernel
theorem dX6_renew_37 : decode cX6_renew 37 = .ok (.aload_n 0, 1) := by decide +kernel
theorem dX6_renew_38 : decode cX6_renew 38 = .ok (.invokevirtual 75, 3) := by decide +kernel
theorem dX6_renew_41 : decode cX6_renew 41 = .ok (.return_, 1) := by decide +kernel
theorem dX6_isPowered_0 : decode cX6_isPowered 0 = .ok (.aload_n 0, 1) := by decide +kernel
theorem dX6_isPowered_1 : decode cX6_isPowered 1 = .ok (.getfield 111, 3) := by decide +kernel
theorem dX6_isPowered_4 : decode cX6_isPowered 4 = .ok (.iconst (-1), 1) := by decide +kernel
theorem dX6_isPowered_5 : decode cX6_isPowered 5 = .ok (.if_icmp .eq 7, 3) := by decide +kernel
theorem dX6_isPowered_8 : decode cX6_isPowered 8 = .ok (.iconst 1, 1) := by decide +kernel
theorem dX6_isPowered_9 : decode cX6_isPowered 9 = .ok (.goto 4, 3) := by decide +kernel
theorem dX6_isPowered_12 : decode cX6_isPowered 12 = .ok (.iconst 0, 1) := by decide +kernel
theorem dX6_isPowered_13 : decode cX6_isPowered 13 = .ok (.ireturn, 1) := by decide +kernel
theorem dX6_isStreaming_0 : decode cX6_isStreaming 0 = .ok (.aload_n 0, 1) := by decide +kernel
theorem dX6_isStreaming_1 : decode cX6_isStreaming 1 = .ok (.getfield 111, 3) := by decide +kernel
theorem dX6_isStreaming_4 : decode cX6_isStreaming 4 = .ok (.iconst 5, 1) := by decide +kernel
theorem dX6_isStreaming_5 : decode cX6_isStreaming 5 = .ok (.if_icmp .eq 12, 3) := by decide +kernel
theorem dX6_isStreaming_8 : decode cX6_isStreaming 8 = .ok (.aload_n 0, 1) := by decide +kernel
theorem dX6_isStreaming_9 : decode cX6_isStreaming 9 = .ok (.getfield 111, 3) := by decide +kernel
theorem dX6_isStreaming_12 : decode cX6_isStreaming 12 = .ok (.bipush 6, 2) := by decide +kernel
theorem dX6_isStreaming_14 : decode cX6_isStreaming 14 = .ok (.if_icmp .ne 7, 3) := by decide +kernel
theorem dX6_isStreaming_17 : decode cX6_isStreaming 17 = .ok (.iconst 1, 1) := by decide +kernel
theorem dX6_isStreaming_18 : decode cX6_isStreaming 18 = .ok (.goto 4, 3) := by decide +kernel
theorem dX6_isStreaming_21 : decode cX6_isStreaming 21 = .ok (.iconst 0, 1) := by decide +kernel
theorem dX6_isStreaming_22 : decode cX6_isStreaming 22 = .ok (.ireturn, 1) := by decide +kernel
set_option maxRecDepth 20000 in
theorem ggX6_start_X6_goDark : GoodIn wsX6_start wsX6_goDark := goodIn_r _ [8, 1, 9, 10, 11, 3, 12, 13, 14, 15, 16, 17, 18, 19, 20, 21, 22, 23, 24, 25, 26, 27, 28, 29, 30, 31, 32, 33, 34, 35, 36, 37, 38, 39, 40, 41, 42, 43, 44, 45, 46, 47, 48, 49, 50, 51, 52, 53, 54, 55, 62, 63, 64, 65, 66, 67, 68, 69, 70, 71, 72, 73, 74, 75, 76, 77, 78, 79, 80, 81, 82, 83, 84, 85, 86, 87, 88, 89, 90, 91, 92, 93, 94, 95, 96] (by decide +kernel) (by decide +kernel)
set_option maxRecDepth 20000 in
theorem gX6_start_X6_goDark : GoodIn wsX6_start (wsV RX6 75 RX6 yX6_goDark wsX6_goDark) := goodIn_app (goodIn_of _ (by decide +kernel)) ggX6_start_X6_goDark
set_option maxRecDepth 20000 in
theorem ggX6_start_X1_length : GoodIn wsX6_start wsX1_length := goodIn_r _ [60, 61, 97, 98] (by decide +kernel) (by decide +kernel)
set_option maxRecDepth 20000 in
theorem gX6_start_X1_length : GoodIn wsX6_start (wsV RX6 86 RX1 yX1_length wsX1_length) := goodIn_app (goodIn_of _ (by decide +kernel)) ggX6_start_X1_length
theorem dX6_start_0 : decode cX6_start 0 = .ok (.aload_n 0, 1) := by decide +kernel
theorem dX6_start_1 : decode cX6_start 1 = .ok (.invokevirtual 75, 3) := by decide +kernel
theorem dX6_start_4 : decode cX6_start 4 = .ok (.aload_n 0, 1) := by decide +kernel
theorem dX6_start_5 : decode cX6_start 5 = .ok (.iconst 0, 1) := by decide +kernel
theorem dX6_start_6 : decode cX6_start 6 = .ok (.putfield 111, 3) := by decide +kernel
theorem dX6_start_9 : decode cX6_start 9 = .ok (.aload_n 0, 1) := by decide +kernel
theorem dX6_start_10 : decode cX6_start 10 = .ok (.aload_n 0, 1) := by decide +kernel
theorem dX6_start_11 : decode cX6_start 11 = .ok (.getfield 25, 3) := by decide +kernel
theorem dX6_start_14 : decode cX6_start 14 = .ok (.invokevirtual 86, 3) := by decide +kernel
theorem dX6_start_17 : decode cX6_start 17 = .ok (.ifCond .le 7, 3) := by decide +kernel
theorem dX6_start_20 : decode cX6_start 20 = .ok (.iconst 1, 1) := by decide +kernel
theorem dX6_start_21 : decode cX6_start 21 = .ok (.goto 4, 3) := by decide +kernel
theorem dX6_start_24 : decode cX6_start 24 = .ok (.iconst 0, 1) := by decide +kernel
theorem dX6_start_25 : decode cX6_start 25 = .ok (.putfield 197, 3) := by decide +kernel
theorem dX6_start_28 : decode cX6_start 28 = .ok (.return_, 1) := by decide +kernel
set_option maxRecDepth 20000 in
theorem ggX6_goDark_X2_clear : GoodIn wsX6_goDark wsX2_clear := goodIn_r _ [14, 15, 16, 17, 67, 68, 69] (by decide +kernel) (by decide +kernel)
set_option maxRecDepth 20000 in
theorem gX6_goDark_X2_clear : GoodIn wsX6_goDark (wsV RX6 247 RX2 yX2_clear wsX2_clear) := goodIn_app (goodIn_of _ (by decide +kernel)) ggX6_goDark_X2_clear
set_option maxRecDepth 20000 in
theorem ggX6_goDark_X4_clear : GoodIn wsX6_goDark wsX4_clear := goodIn_r _ [22, 23, 24, 70, 71, 72, 73] (by decide +kernel) (by decide +kernel)
set_option maxRecDepth 20000 in
theorem gX6_goDark_X4_clear : GoodIn wsX6_goDark (wsV RX6 249 RX4 yX4_clear wsX4_clear) := goodIn_app (goodIn_of _ (by decide +kernel)) ggX6_goDark_X4_clear
set_option maxRecDepth 20000 in
theorem ggX6_goDark_X0_clear : GoodIn wsX6_goDark wsX0_clear := goodIn_r _ [29, 30, 31, 32, 33, 34, 35, 28, 36, 37, 38, 39, 74, 75, 76, 77, 78, 79] (by decide +kernel) (by decide +kernel)
set_option maxRecDepth 20000 in
theorem gX6_goDark_X0_clear : GoodIn wsX6_goDark (wsV RX6 250 RX0 yX0_clear wsX0_clear) := goodIn_app (goodIn_of _ (by decide +kernel)) ggX6_goDark_X0_clear
set_option maxRecDepth 20000 in
theorem ggX6_goDark_X5_clear : GoodIn wsX6_goDark wsX5_clear := goodIn_r _ [44, 45, 46, 47, 48, 49, 80, 81, 82, 83, 84] (by decide +kernel) (by decide +kernel)
set_option maxRecDepth 20000 in
theorem gX6_goDark_X5_clear : GoodIn wsX6_goDark (wsV RX6 251 RX5 yX5_clear wsX5_clear) := goodIn_app (goodIn_of _ (by decide +kernel)) ggX6_goDark_X5_clear
theorem dX6_goDark_0 : decode cX6_goDark 0 = .ok (.aload_n 0, 1) := by decide +kernel
theorem dX6_goDark_1 : decode cX6_goDark 1 = .ok (.iconst (-1), 1) := by decide +kernel
theorem dX6_goDark_2 : decode cX6_goDark 2 = .ok (.putfield 111, 3) := by decide +kernel
theorem dX6_goDark_5 : decode cX6_goDark 5 = .ok (.aload_n 0, 1) := by decide +kernel
theorem dX6_goDark_6 : decode cX6_goDark 6 = .ok (.iconst 0, 1) := by decide +kernel
theorem dX6_goDark_7 : decode cX6_goDark 7 = .ok (.putfield 185, 3) := by decide +kernel
theorem dX6_goDark_10 : decode cX6_goDark 10 = .ok (.aload_n 0, 1) := by decide +kernel
theorem dX6_goDark_11 : decode cX6_goDark 11 = .ok (.iconst 0, 1) := by decide +kernel
theorem dX6_goDark_12 : decode cX6_goDark 12 = .ok (.putfield 201, 3) := by decide +kernel
theorem dX6_goDark_15 : decode cX6_goDark 15 = .ok (.aload_n 0, 1) := by decide +kernel
theorem dX6_goDark_16 : decode cX6_goDark 16 = .ok (.iconst 0, 1) := by decide +kernel
theorem dX6_goDark_17 : decode cX6_goDark 17 = .ok (.putfield 244, 3) := by decide +kernel
theorem dX6_goDark_20 : decode cX6_goDark 20 = .ok (.aload_n 0, 1) := by decide +kernel
theorem dX6_goDark_21 : decode cX6_goDark 21 = .ok (.iconst 0, 1) := by decide +kernel
theorem dX6_goDark_22 : decode cX6_goDark 22 = .ok (.putfield 197, 3) := by decide +kernel
theorem dX6_goDark_25 : decode cX6_goDark 25 = .ok (.aload_n 0, 1) := by decide +kernel
theorem dX6_goDark_26 : decode cX6_goDark 26 = .ok (.getfield 52, 3) := by decide +kernel
theorem dX6_goDark_29 : decode cX6_goDark 29 = .ok (.invokevirtual 247, 3) := by decide +kernel
theorem dX6_goDark_32 : decode cX6_goDark 32 = .ok (.aload_n 0, 1) := by decide +kernel
theorem dX6_goDark_33 : decode cX6_goDark 33 = .ok (.getfield 31, 3) := by decide +kernel
theorem dX6_goDark_36 : decode cX6_goDark 36 = .ok (.invokevirtual 249, 3) := by decide +kernel
theorem dX6_goDark_39 : decode cX6_goDark 39 = .ok (.aload_n 0, 1) := by decide +kernel
theorem dX6_goDark_40 : decode cX6_goDark 40 = .ok (.getfield 38, 3) := by decide +kernel
theorem dX6_goDark_43 : decode cX6_goDark 43 = .ok (.invokevirtual 250, 3) := by decide +kernel
theorem dX6_goDark_46 : decode cX6_goDark 46 = .ok (.aload_n 0, 1) := by decide +kernel
theorem dX6_goDark_47 : decode cX6_goDark 47 = .ok (.getfield 45, 3) := by decide +kernel
theorem dX6_goDark_50 : decode cX6_goDark 50 = .ok (.invokevirtual 251, 3) := by decide +kernel
theorem dX6_goDark_53 : decode cX6_goDark 53 = .ok (.return_, 1) := by decide +kernel
set_option maxRecDepth 20000 in
theorem ggX6_tearUnfinished_X4_firstHasBegun : GoodIn wsX6_tearUnfinished wsX4_firstHasBegun := goodIn_r _ [8, 9, 10, 77, 78, 79, 80] (by decide +kernel) (by decide +kernel)
set_option maxRecDepth 20000 in
theorem gX6_tearUnfinished_X4_firstHasBegun : GoodIn wsX6_tearUnfinished (wsV RX6 252 RX4 yX4_firstHasBegun wsX4_firstHasBegun) := goodIn_app (goodIn_of _ (by decide +kernel)) ggX6_tearUnfinished_X4_firstHasBegun
set_option maxRecDepth 20000 in
theorem ggX6_tearUnfinished_X4_tellOf : GoodIn wsX6_tearUnfinished wsX4_tellOf := goodIn_r _ [14, 9, 15, 16, 10, 77, 78, 79, 80] (by decide +kernel) (by decide +kernel)
set_option maxRecDepth 20000 in
theorem gX6_tearUnfinished_X4_tellOf : GoodIn wsX6_tearUnfinished (wsV RX6 178 RX4 yX4_tellOf wsX4_tellOf) := goodIn_app (goodIn_of _ (by decide +kernel)) ggX6_tearUnfinished_X4_tellOf
set_option maxRecDepth 20000 in
theorem ggX6_tearUnfinished_X3_tear : GoodIn wsX6_tearUnfinished wsX3_tear := goodIn_r _ [21, 22, 23, 24, 20, 25, 26, 27, 28, 29, 30, 31, 32, 33, 34, 35, 36, 37, 38, 39, 40, 41, 42, 81, 82, 83, 84, 85, 86] (by decide +kernel) (by decide +kernel)
set_option maxRecDepth 20000 in
theorem gX6_tearUnfinished_X3_tear : GoodIn wsX6_tearUnfinished (wsV RX6 255 RX3 yX3_tear wsX3_tear) := goodIn_app (goodIn_of _ (by decide +kernel)) ggX6_tearUnfinished_X3_tear
set_option maxRecDepth 20000 in
theorem ggX6_tearUnfinished_X0_groupHasBegun : GoodIn wsX6_tearUnfinished wsX0_groupHasBegun := goodIn_r _ [47, 48, 49, 87, 88, 89, 90, 91, 92] (by decide +kernel) (by decide +kernel)
set_option maxRecDepth 20000 in
theorem gX6_tearUnfinished_X0_groupHasBegun : GoodIn wsX6_tearUnfinished (wsV RX6 258 RX0 yX0_groupHasBegun wsX0_groupHasBegun) := goodIn_app (goodIn_of _ (by decide +kernel)) ggX6_tearUnfinished_X0_groupHasBegun
set_option maxRecDepth 20000 in
theorem ggX6_tearUnfinished_X0_group : GoodIn wsX6_tearUnfinished wsX0_group := goodIn_r _ [53, 54, 87, 88, 89, 90, 91, 92] (by decide +kernel) (by decide +kernel)
set_option maxRecDepth 20000 in
theorem gX6_tearUnfinished_X0_group : GoodIn wsX6_tearUnfinished (wsV RX6 261 RX0 yX0_group wsX0_group) := goodIn_app (goodIn_of _ (by decide +kernel)) ggX6_tearUnfinished_X0_group
set_option maxRecDepth 20000 in
theorem ggX6_tearUnfinished_X3_tearGroup : GoodIn wsX6_tearUnfinished wsX3_tearGroup := goodIn_r _ [58, 59, 22, 23, 24, 20, 25, 26, 27, 28, 29, 30, 31, 32, 33, 34, 35, 36, 37, 38, 39, 40, 41, 42, 81, 82, 83, 84, 85, 86] (by decide +kernel) (by decide +kernel)
set_option maxRecDepth 20000 in
theorem gX6_tearUnfinished_X3_tearGroup : GoodIn wsX6_tearUnfinished (wsV RX6 264 RX3 yX3_tearGroup wsX3_tearGroup) := goodIn_app (goodIn_of _ (by decide +kernel)) ggX6_tearUnfinished_X3_tearGroup
theorem dX6_tearUnfinished_0 : decode cX6_tearUnfinished 0 = .ok (.aload_n 0, 1) := by decide +kernel
theorem dX6_tearUnfinished_1 : decode cX6_tearUnfinished 1 = .ok (.getfield 31, 3) := by decide +kernel
theorem dX6_tearUnfinished_4 : decode cX6_tearUnfinished 4 = .ok (.invokevirtual 252, 3) := by decide +kernel
theorem dX6_tearUnfinished_7 : decode cX6_tearUnfinished 7 = .ok (.ifCond .eq 19, 3) := by decide +kernel
theorem dX6_tearUnfinished_10 : decode cX6_tearUnfinished 10 = .ok (.aload_n 0, 1) := by decide +kernel
theorem dX6_tearUnfinished_11 : decode cX6_tearUnfinished 11 = .ok (.getfield 10, 3) := by decide +kernel
theorem dX6_tearUnfinished_14 : decode cX6_tearUnfinished 14 = .ok (.aload_n 0, 1) := by decide +kernel
theorem dX6_tearUnfinished_15 : decode cX6_tearUnfinished 15 = .ok (.getfield 31, 3) := by decide +kernel
theorem dX6_tearUnfinished_18 : decode cX6_tearUnfinished 18 = .ok (.iconst 0, 1) := by decide +kernel
theorem dX6_tearUnfinished_19 : decode cX6_tearUnfinished 19 = .ok (.iconst 0, 1) := by decide +kernel
theorem dX6_tearUnfinished_20 : decode cX6_tearUnfinished 20 = .ok (.invokevirtual 178, 3) := by decide +kernel
theorem dX6_tearUnfinished_23 : decode cX6_tearUnfinished 23 = .ok (.invokevirtual 255, 3) := by decide +kernel
theorem dX6_tearUnfinished_26 : decode cX6_tearUnfinished 26 = .ok (.aload_n 0, 1) := by decide +kernel
theorem dX6_tearUnfinished_27 : decode cX6_tearUnfinished 27 = .ok (.getfield 38, 3) := by decide +kernel
theorem dX6_tearUnfinished_30 : decode cX6_tearUnfinished 30 = .ok (.invokevirtual 258, 3) := by decide +kernel
theorem dX6_tearUnfinished_33 : decode cX6_tearUnfinished 33 = .ok (.ifCond .eq 17, 3) := by decide +kernel
theorem dX6_tearUnfinished_36 : decode cX6_tearUnfinished 36 = .ok (.aload_n 0, 1) := by decide +kernel
theorem dX6_tearUnfinished_37 : decode cX6_tearUnfinished 37 = .ok (.getfield 10, 3) := by decide +kernel
theorem dX6_tearUnfinished_40 : decode cX6_tearUnfinished 40 = .ok (.aload_n 0, 1) := by decide +kernel
theorem dX6_tearUnfinished_41 : decode cX6_tearUnfinished 41 = .ok (.getfield 38, 3) := by decide +kernel
theorem dX6_tearUnfinished_44 : decode cX6_tearUnfinished 44 = .ok (.invokevirtual 261, 3) := by decide +kernel
theorem dX6_tearUnfinished_47 : decode cX6_tearUnfinished 47 = .ok (.invokevirtual 264, 3) := by decide +kernel
theorem dX6_tearUnfinished_50 : decode cX6_tearUnfinished 50 = .ok (.return_, 1) := by decide +kernel
theorem dX6_note_0 : decode cX6_note 0 = .ok (.aload_n 0, 1) := by decide +kernel
theorem dX6_note_1 : decode cX6_note 1 = .ok (.dup, 1) := by decide +kernel
theorem dX6_note_2 : decode cX6_note 2 = .ok (.getfield 201, 3) := by decide +kernel
theorem dX6_note_5 : decode cX6_note 5 = .ok (.iload_n 1, 1) := by decide +kernel
theorem dX6_note_6 : decode cX6_note 6 = .ok (.ior, 1) := by decide +kernel
theorem dX6_note_7 : decode cX6_note 7 = .ok (.putfield 201, 3) := by decide +kernel
theorem dX6_note_10 : decode cX6_note 10 = .ok (.return_, 1) := by decide +kernel
set_option maxRecDepth 20000 in
theorem ggX6_refuse_X6_note : GoodIn wsX6_refuse wsX6_note := goodIn_r _ [5, 6, 7, 8, 9, 10, 11, 12, 13, 14, 15, 16, 17, 18, 19, 20, 21, 22, 23] (by decide +kernel) (by decide +kernel)
set_option maxRecDepth 20000 in
theorem gX6_refuse_X6_note : GoodIn wsX6_refuse (wsV RX6 135 RX6 yX6_note wsX6_note) := goodIn_app (goodIn_of _ (by decide +kernel)) ggX6_refuse_X6_note
theorem dX6_refuse_0 : decode cX6_refuse 0 = .ok (.aload_n 0, 1) := by decide +kernel
theorem dX6_refuse_1 : decode cX6_refuse 1 = .ok (.iload_n 1, 1) := by decide +kernel
theorem dX6_refuse_2 : decode cX6_refuse 2 = .ok (.invokevirtual 135, 3) := by decide +kernel
theorem dX6_refuse_5 : decode cX6_refuse 5 = .ok (.bipush (-2), 2) := by decide +kernel
theorem dX6_refuse_7 : decode cX6_refuse 7 = .ok (.ireturn, 1) := by decide +kernel
set_option maxRecDepth 20000 in
theorem ggX6_hears_X6_isPowered : GoodIn wsX6_hears wsX6_isPowered := goodIn_r _ [6, 7, 43, 44, 45, 46, 47, 48, 49, 50, 51, 52, 53, 54, 55, 56, 57, 58, 59] (by decide +kernel) (by decide +kernel)
set_option maxRecDepth 20000 in
theorem gX6_hears_X6_isPowered : GoodIn wsX6_hears (wsV RX6 65 RX6 yX6_isPowered wsX6_isPowered) := goodIn_app (goodIn_of _ (by decide +kernel)) ggX6_hears_X6_isPowered
set_option maxRecDepth 20000 in
theorem ggX6_hears_X6_commandCheck : GoodIn wsX6_hears wsX6_commandCheck := goodIn_r _ [10, 11, 12, 13, 5, 14] (by decide +kernel) (by decide +kernel)
set_option maxRecDepth 20000 in
theorem gX6_hears_X6_commandCheck : GoodIn wsX6_hears (va_wsS RX6 97 yX6_commandCheck wsX6_commandCheck) := goodIn_app (goodIn_of _ (by decide +kernel)) ggX6_hears_X6_commandCheck
set_option maxRecDepth 20000 in
theorem ggX6_hears_X6_note : GoodIn wsX6_hears wsX6_note := goodIn_r _ [18, 19, 43, 44, 45, 46, 47, 48, 49, 50, 51, 52, 53, 54, 55, 56, 57, 58, 59] (by decide +kernel) (by decide +kernel)
set_option maxRecDepth 20000 in
theorem gX6_hears_X6_note : GoodIn wsX6_hears (wsV RX6 135 RX6 yX6_note wsX6_note) := goodIn_app (goodIn_of _ (by decide +kernel)) ggX6_hears_X6_note
set_option maxRecDepth 20000 in
theorem ggX6_hears_X6_isOpenTo : GoodIn wsX6_hears wsX6_isOpenTo := goodIn_r _ [23, 24, 7, 25, 26, 5, 27, 28, 29, 30, 43, 44, 45, 46, 47, 48, 49, 50, 51, 52, 53, 54, 55, 56, 57, 58, 59] (by decide +kernel) (by decide +kernel)
set_option maxRecDepth 20000 in
theorem gX6_hears_X6_isOpenTo : GoodIn wsX6_hears (wsV RX6 267 RX6 yX6_isOpenTo wsX6_isOpenTo) := goodIn_app (goodIn_of _ (by decide +kernel)) ggX6_hears_X6_isOpenTo
set_option maxRecDepth 20000 in
theorem ggX6_hears_X0_isBrokenOffBy : GoodIn wsX6_hears wsX0_isBrokenOffBy := goodIn_r _ [35, 36, 60, 61, 62, 63, 64, 65] (by decide +kernel) (by decide +kernel)
set_option maxRecDepth 20000 in
theorem gX6_hears_X0_isBrokenOffBy : GoodIn wsX6_hears (wsV RX6 270 RX0 yX0_isBrokenOffBy wsX0_isBrokenOffBy) := goodIn_app (goodIn_of _ (by decide +kernel)) ggX6_hears_X0_isBrokenOffBy
set_option maxRecDepth 20000 in
theorem ggX6_hears_X0_forget : GoodIn wsX6_hears wsX0_forget := goodIn_r _ [40, 36, 41, 42, 60, 61, 62, 63, 64, 65] (by decide +kernel) (by decide +kernel)
set_option maxRecDepth 20000 in
theorem gX6_hears_X0_forget : GoodIn wsX6_hears (wsV RX6 273 RX0 yX0_forget wsX0_forget) := goodIn_app (goodIn_of _ (by decide +kernel)) ggX6_hears_X0_forget
theorem dX6_hears_0 : decode cX6_hears 0 = .ok (.aload_n 0, 1) := by decide +kernel
theorem dX6_hears_1 : decode cX6_hears 1 = .ok (.invokevirtual 65, 3) := by decide +kernel
theorem dX6_hears_4 : decode cX6_hears 4 = .ok (.ifCond .ne 5, 3) := by decide +kernel
theorem dX6_hears_7 : decode cX6_hears 7 = .ok (.iconst 0, 1) := by decide +kernel
theorem dX6_hears_8 : decode cX6_hears 8 = .ok (.ireturn, 1) := by decide +kernel
theorem dX6_hears_9 : decode cX6_hears 9 = .ok (.iload_n 3, 1) := by decide +kernel
theorem dX6_hears_10 : decode cX6_hears 10 = .ok (.iload_n 1, 1) := by decide +kernel
theorem dX6_hears_11 : decode cX6_hears 11 = .ok (.iload_n 2, 1) := by decide +kernel
theorem dX6_hears_12 : decode cX6_hears 12 = .ok (.invokestatic 97, 3) := by decide +kernel
theorem dX6_hears_15 : decode cX6_hears 15 = .ok (.if_icmp .eq 10, 3) := by decide +kernel
theorem dX6_hears_18 : decode cX6_hears 18 = .ok (.aload_n 0, 1) := by decide +kernel
theorem dX6_hears_19 : decode cX6_hears 19 = .ok (.iconst 1, 1) := by decide +kernel
theorem dX6_hears_20 : decode cX6_hears 20 = .ok (.invokevirtual 135, 3) := by decide +kernel
theorem dX6_hears_23 : decode cX6_hears 23 = .ok (.iconst 0, 1) := by decide +kernel
theorem dX6_hears_24 : decode cX6_hears 24 = .ok (.ireturn, 1) := by decide +kernel
theorem dX6_hears_25 : decode cX6_hears 25 = .ok (.aload_n 0, 1) := by decide +kernel
theorem dX6_hears_26 : decode cX6_hears 26 = .ok (.iload_n 1, 1) := by decide +kernel
theorem dX6_hears_27 : decode cX6_hears 27 = .ok (.invokevirtual 267, 3) := by decide +kernel
theorem dX6_hears_30 : decode cX6_hears 30 = .ok (.ifCond .ne 10, 3) := by decide +kernel
theorem dX6_hears_33 : decode cX6_hears 33 = .ok (.aload_n 0, 1) := by decide +kernel
theorem dX6_hears_34 : decode cX6_hears 34 = .ok (.iconst 2, 1) := by decide +kernel
theorem dX6_hears_35 : decode cX6_hears 35 = .ok (.invokevirtual 135, 3) := by decide +kernel
theorem dX6_hears_38 : decode cX6_hears 38 = .ok (.iconst 0, 1) := by decide +kernel
theorem dX6_hears_39 : decode cX6_hears 39 = .ok (.ireturn, 1) := by decide +kernel
theorem dX6_hears_40 : decode cX6_hears 40 = .ok (.aload_n 0, 1) := by decide +kernel
theorem dX6_hears_41 : decode cX6_hears 41 = .ok (.getfield 38, 3) := by decide +kernel
theorem dX6_hears_44 : decode cX6_hears 44 = .ok (.iload_n 1, 1) := by decide +kernel
theorem dX6_hears_45 : decode cX6_hears 45 = .ok (.invokevirtual 270, 3) := by decide +kernel
theorem dX6_hears_48 : decode cX6_hears 48 = .ok (.ifCond .eq 16, 3) := by decide +kernel
theorem dX6_hears_51 : decode cX6_hears 51 = .ok (.aload_n 0, 1) := by decide +kernel
theorem dX6_hears_52 : decode cX6_hears 52 = .ok (.getfield 38, 3) := by decide +kernel
theorem dX6_hears_55 : decode cX6_hears 55 = .ok (.invokevirtual 273, 3) := by decide +kernel
theorem dX6_hears_58 : decode cX6_hears 58 = .ok (.aload_n 0, 1) := by decide +kernel
theorem dX6_hears_59 : decode cX6_hears 59 = .ok (.bipush 8, 2) := by decide +kernel
theorem dX6_hears_61 : decode cX6_hears 61 = .ok (.invokevirtual 135, 3) := by decide +kernel
theorem dX6_hears_64 : decode cX6_hears 64 = .ok (.iconst 1, 1) := by decide +kernel
theorem dX6_hears_65 : decode cX6_hears 65 = .ok (.ireturn, 1) := by decide +kernel
set_option maxRecDepth 20000 in
theorem ggX6_isOpenTo_X6_isBarredByLock : GoodIn wsX6_isOpenTo wsX6_isBarredByLock := goodIn_r _ [6] (by decide +kernel) (by decide +kernel)
set_option maxRecDepth 20000 in
theorem gX6_isOpenTo_X6_isBarredByLock : GoodIn wsX6_isOpenTo (va_wsS RX6 229 yX6_isBarredByLock wsX6_isBarredByLock) := goodIn_app (goodIn_of _ (by decide +kernel)) ggX6_isOpenTo_X6_isBarredByLock
set_option maxRecDepth 20000 in
theorem ggX6_isOpenTo_X6_statesOf : GoodIn wsX6_isOpenTo wsX6_statesOf := goodIn_r _ [9, 3, 4, 5, 6] (by decide +kernel) (by decide +kernel)
set_option maxRecDepth 20000 in
theorem gX6_isOpenTo_X6_statesOf : GoodIn wsX6_isOpenTo (va_wsS RX6 276 yX6_statesOf wsX6_statesOf) := goodIn_app (goodIn_of _ (by decide +kernel)) ggX6_isOpenTo_X6_statesOf
theorem dX6_isOpenTo_0 : decode cX6_isOpenTo 0 = .ok (.aload_n 0, 1) := by decide +kernel
theorem dX6_isOpenTo_1 : decode cX6_isOpenTo 1 = .ok (.getfield 197, 3) := by decide +kernel
theorem dX6_isOpenTo_4 : decode cX6_isOpenTo 4 = .ok (.ifCond .eq 12, 3) := by decide +kernel
theorem dX6_isOpenTo_7 : decode cX6_isOpenTo 7 = .ok (.iload_n 1, 1) := by decide +kernel
theorem dX6_isOpenTo_8 : decode cX6_isOpenTo 8 = .ok (.invokestatic 229, 3) := by decide +kernel
theorem dX6_isOpenTo_11 : decode cX6_isOpenTo 11 = .ok (.ifCond .eq 5, 3) := by decide +kernel
theorem dX6_isOpenTo_14 : decode cX6_isOpenTo 14 = .ok (.iconst 0, 1) := by decide +kernel
theorem dX6_isOpenTo_15 : decode cX6_isOpenTo 15 = .ok (.ireturn, 1) := by decide +kernel
theorem dX6_isOpenTo_16 : decode cX6_isOpenTo 16 = .ok (.iload_n 1, 1) := by decide +kernel
theorem dX6_isOpenTo_17 : decode cX6_isOpenTo 17 = .ok (.invokestatic 276, 3) := by decide +kernel
theorem dX6_isOpenTo_20 : decode cX6_isOpenTo 20 = .ok (.aload_n 0, 1) := by decide +kernel
theorem dX6_isOpenTo_21 : decode cX6_isOpenTo 21 = .ok (.getfield 111, 3) := by decide +kernel
theorem dX6_isOpenTo_24 : decode cX6_isOpenTo 24 = .ok (.ishr, 1) := by decide +kernel
theorem dX6_isOpenTo_25 : decode cX6_isOpenTo 25 = .ok (.iconst 1, 1) := by decide +kernel
theorem dX6_isOpenTo_26 : decode cX6_isOpenTo 26 = .ok (.iand, 1) := by decide +kernel
theorem dX6_isOpenTo_27 : decode cX6_isOpenTo 27 = .ok (.iconst 1, 1) := by decide +kernel
theorem dX6_isOpenTo_28 : decode cX6_isOpenTo 28 = .ok (.if_icmp .ne 7, 3) := by decide +kernel
theorem dX6_isOpenTo_31 : decode cX6_isOpenTo 31 = .ok (.iconst 1, 1) := by decide +kernel
theorem dX6_isOpenTo_32 : decode cX6_isOpenTo 32 = .ok (.goto 4, 3) := by decide +kernel
theorem dX6_isOpenTo_35 : decode cX6_isOpenTo 35 = .ok (.iconst 0, 1) := by decide +kernel
theorem dX6_isOpenTo_36 : decode cX6_isOpenTo 36 = .ok (.ireturn, 1) := by decide +kernel
set_option maxRecDepth 20000 in
theorem ggX6_obey_X6_reset : GoodIn wsX6_obey wsX6_reset := goodIn_r _ [6, 7, 8, 9, 5, 10, 11, 12, 13, 14, 15, 16, 17, 18, 19, 20, 21, 22, 23, 24, 25, 26, 27, 28, 29, 30, 31, 32, 33, 34, 35, 36, 37, 38, 39, 40, 41, 42, 43, 44, 45, 46, 47, 48, 49, 50, 51, 52, 53, 54, 55, 56, 57, 58, 59, 60, 61, 62, 63, 64, 65, 66, 67, 68, 69, 70, 71, 72, 73, 74, 75, 76, 77, 78, 79, 80, 81, 82, 83, 84, 85, 86, 87, 88, 89, 90, 91, 92, 93, 94, 95, 96, 97, 98, 99, 100, 101, 102, 103, 104, 105, 106, 107, 108, 109, 110, 111, 112, 113, 114, 115, 116, 117, 118, 119, 120, 121, 122, 123, 124, 327, 328, 329, 330, 331, 332, 333, 334, 335, 336, 337, 338, 339, 340, 341, 342, 343, 344, 345, 346, 347, 348, 349, 350, 351, 352, 353, 354, 355, 356, 357, 358, 359, 360, 361, 362, 363, 364, 365, 366, 367, 368, 369] (by decide +kernel) (by decide +kernel)
set_option maxRecDepth 20000 in
theorem gX6_obey_X6_reset : GoodIn wsX6_obey (wsV RX6 279 RX6 yX6_reset wsX6_reset) := goodIn_app (goodIn_of _ (by decide +kernel)) ggX6_obey_X6_reset
set_option maxRecDepth 20000 in
theorem ggX6_obey_X6_wake : GoodIn wsX6_obey wsX6_wake := goodIn_r _ [128, 83, 129, 74, 327, 328, 329, 330, 331, 332, 333, 334, 335, 336, 337, 338, 339, 340, 341, 342, 343] (by decide +kernel) (by decide +kernel)
set_option maxRecDepth 20000 in
theorem gX6_obey_X6_wake : GoodIn wsX6_obey (wsV RX6 282 RX6 yX6_wake wsX6_wake) := goodIn_app (goodIn_of _ (by decide +kernel)) ggX6_obey_X6_wake
set_option maxRecDepth 20000 in
theorem ggX6_obey_X6_tellNumber : GoodIn wsX6_obey wsX6_tellNumber := goodIn_r _ [133, 74, 134, 327, 328, 329, 330, 331, 332, 333, 334, 335, 336, 337, 338, 339, 340, 341, 342, 343] (by decide +kernel) (by decide +kernel)
set_option maxRecDepth 20000 in
theorem gX6_obey_X6_tellNumber : GoodIn wsX6_obey (wsV RX6 285 RX6 yX6_tellNumber wsX6_tellNumber) := goodIn_app (goodIn_of _ (by decide +kernel)) ggX6_obey_X6_tellNumber
set_option maxRecDepth 20000 in
theorem ggX6_obey_X6_takeAddress : GoodIn wsX6_obey wsX6_takeAddress := goodIn_r _ [138, 81, 74, 327, 328, 329, 330, 331, 332, 333, 334, 335, 336, 337, 338, 339, 340, 341, 342, 343] (by decide +kernel) (by decide +kernel)
set_option maxRecDepth 20000 in
theorem gX6_obey_X6_takeAddress : GoodIn wsX6_obey (wsV RX6 288 RX6 yX6_takeAddress wsX6_takeAddress) := goodIn_app (goodIn_of _ (by decide +kernel)) ggX6_obey_X6_takeAddress
set_option maxRecDepth 20000 in
theorem ggX6_obey_X6_choose : GoodIn wsX6_obey wsX6_choose := goodIn_r _ [142, 81, 74, 327, 328, 329, 330, 331, 332, 333, 334, 335, 336, 337, 338, 339, 340, 341, 342, 343] (by decide +kernel) (by decide +kernel)
set_option maxRecDepth 20000 in
theorem gX6_obey_X6_choose : GoodIn wsX6_obey (wsV RX6 291 RX6 yX6_choose wsX6_choose) := goodIn_app (goodIn_of _ (by decide +kernel)) ggX6_obey_X6_choose
set_option maxRecDepth 20000 in
theorem ggX6_obey_X6_tellStatus : GoodIn wsX6_obey wsX6_tellStatus := goodIn_r _ [146, 81, 74, 76, 82, 147, 148, 5, 149, 327, 328, 329, 330, 331, 332, 333, 334, 335, 336, 337, 338, 339, 340, 341, 342, 343] (by decide +kernel) (by decide +kernel)
set_option maxRecDepth 20000 in
theorem gX6_obey_X6_tellStatus : GoodIn wsX6_obey (wsV RX6 294 RX6 yX6_tellStatus wsX6_tellStatus) := goodIn_app (goodIn_of _ (by decide +kernel)) ggX6_obey_X6_tellStatus
set_option maxRecDepth 20000 in
theorem ggX6_obey_X6_switchLines : GoodIn wsX6_obey wsX6_switchLines := goodIn_r _ [153, 84, 154, 155, 156, 89, 157, 92, 91, 158, 159, 160, 5, 161, 82, 162, 163, 164, 165, 166, 167, 168, 169, 327, 328, 329, 330, 331, 332, 333, 334, 335, 336, 337, 338, 339, 340, 341, 342, 343, 360, 361, 362] (by decide +kernel) (by decide +kernel)
set_option maxRecDepth 20000 in
theorem gX6_obey_X6_switchLines : GoodIn wsX6_obey (wsV RX6 297 RX6 yX6_switchLines wsX6_switchLines) := goodIn_app (goodIn_of _ (by decide +kernel)) ggX6_obey_X6_switchLines
set_option maxRecDepth 20000 in
theorem ggX6_obey_X6_movePoint : GoodIn wsX6_obey wsX6_movePoint := goodIn_r _ [173, 84, 174, 175, 176, 177, 89, 178, 93, 179, 180, 181, 182, 92, 183, 38, 39, 40, 184, 185, 186, 187, 147, 148, 5, 149, 327, 328, 329, 330, 331, 332, 333, 334, 335, 336, 337, 338, 339, 340, 341, 342, 343, 360, 361, 362] (by decide +kernel) (by decide +kernel)
set_option maxRecDepth 20000 in
theorem gX6_obey_X6_movePoint : GoodIn wsX6_obey (wsV RX6 300 RX6 yX6_movePoint wsX6_movePoint) := goodIn_app (goodIn_of _ (by decide +kernel)) ggX6_obey_X6_movePoint
set_option maxRecDepth 20000 in
theorem ggX6_obey_X6_expect : GoodIn wsX6_obey wsX6_expect := goodIn_r _ [191, 85, 192, 193, 194, 112, 195, 114, 327, 328, 329, 330, 331, 332, 333, 334, 335, 336, 337, 338, 339, 340, 341, 342, 343, 363, 364, 365, 366, 367] (by decide +kernel) (by decide +kernel)
set_option maxRecDepth 20000 in
theorem gX6_obey_X6_expect : GoodIn wsX6_obey (wsV RX6 303 RX6 yX6_expect wsX6_expect) := goodIn_app (goodIn_of _ (by decide +kernel)) ggX6_obey_X6_expect
set_option maxRecDepth 20000 in
theorem ggX6_obey_X6_beginStream : GoodIn wsX6_obey wsX6_beginStream := goodIn_r _ [199, 12, 85, 74, 1, 200, 201, 202, 30, 203, 36, 204, 205, 206, 5, 207, 158, 159, 160, 161, 82, 208, 209, 210, 112, 211, 115, 114, 116, 117, 118, 327, 328, 329, 330, 331, 332, 333, 334, 335, 336, 337, 338, 339, 340, 341, 342, 343, 348, 349, 350, 351, 352, 353, 363, 364, 365, 366, 367] (by decide +kernel) (by decide +kernel)
set_option maxRecDepth 20000 in
theorem gX6_obey_X6_beginStream : GoodIn wsX6_obey (wsV RX6 306 RX6 yX6_beginStream wsX6_beginStream) := goodIn_app (goodIn_of _ (by decide +kernel)) ggX6_obey_X6_beginStream
set_option maxRecDepth 20000 in
theorem ggX6_obey_X6_stop : GoodIn wsX6_obey wsX6_stop := goodIn_r _ [215, 11, 74, 216, 217, 218, 17, 219, 19, 327, 328, 329, 330, 331, 332, 333, 334, 335, 336, 337, 338, 339, 340, 341, 342, 343, 344, 345, 346, 347] (by decide +kernel) (by decide +kernel)
set_option maxRecDepth 20000 in
theorem gX6_obey_X6_stop : GoodIn wsX6_obey (wsV RX6 310 RX6 yX6_stop wsX6_stop) := goodIn_app (goodIn_of _ (by decide +kernel)) ggX6_obey_X6_stop
set_option maxRecDepth 20000 in
theorem ggX6_obey_X6_eraseFrom : GoodIn wsX6_obey wsX6_eraseFrom := goodIn_r _ [223, 12, 13, 200, 201, 202, 30, 203, 36, 204, 205, 206, 5, 207, 158, 159, 160, 161, 82, 224, 225, 226, 56, 227, 106, 107, 327, 328, 329, 330, 331, 332, 333, 334, 335, 336, 337, 338, 339, 340, 341, 342, 343, 348, 349, 350, 351, 352, 353, 354, 355, 356, 357, 358, 359] (by decide +kernel) (by decide +kernel)
set_option maxRecDepth 20000 in
theorem gX6_obey_X6_eraseFrom : GoodIn wsX6_obey (wsV RX6 313 RX6 yX6_eraseFrom wsX6_eraseFrom) := goodIn_app (goodIn_of _ (by decide +kernel)) ggX6_obey_X6_eraseFrom
set_option maxRecDepth 20000 in
theorem ggX6_obey_X6_eraseTo : GoodIn wsX6_obey wsX6_eraseTo := goodIn_r _ [231, 12, 13, 200, 201, 202, 30, 203, 36, 232, 103, 104, 56, 105, 106, 107, 108, 204, 205, 206, 5, 207, 158, 159, 160, 161, 82, 233, 234, 235, 236, 327, 328, 329, 330, 331, 332, 333, 334, 335, 336, 337, 338, 339, 340, 341, 342, 343, 348, 349, 350, 351, 352, 353, 354, 355, 356, 357, 358, 359] (by decide +kernel) (by decide +kernel)
set_option maxRecDepth 20000 in
theorem gX6_obey_X6_eraseTo : GoodIn wsX6_obey (wsV RX6 316 RX6 yX6_eraseTo wsX6_eraseTo) := goodIn_app (goodIn_of _ (by decide +kernel)) ggX6_obey_X6_eraseTo
set_option maxRecDepth 20000 in
theorem ggX6_obey_X6_erase : GoodIn wsX6_obey wsX6_erase := goodIn_r _ [240, 13, 12, 241, 242, 243, 56, 244, 106, 204, 205, 206, 5, 207, 158, 159, 160, 161, 82, 245, 246, 247, 248, 107, 249, 250, 251, 30, 252, 69, 253, 254, 255, 256, 108, 257, 258, 259, 260, 74, 261, 262, 263, 264, 64, 58, 59, 102, 103, 104, 105, 265, 266, 267, 268, 327, 328, 329, 330, 331, 332, 333, 334, 335, 336, 337, 338, 339, 340, 341, 342, 343, 354, 355, 356, 357, 358, 359, 348, 349, 350, 351, 352, 353] (by decide +kernel) (by decide +kernel)
set_option maxRecDepth 20000 in
theorem gX6_obey_X6_erase : GoodIn wsX6_obey (wsV RX6 319 RX6 yX6_erase wsX6_erase) := goodIn_app (goodIn_of _ (by decide +kernel)) ggX6_obey_X6_erase
set_option maxRecDepth 20000 in
theorem ggX6_obey_X6_changeLock : GoodIn wsX6_obey wsX6_changeLock := goodIn_r _ [272, 273, 274, 275, 5, 276, 76, 277, 278, 279, 280, 75, 281, 119, 120, 121, 122, 123, 124, 282, 283, 284, 285, 286, 287, 288, 289, 290, 204, 205, 206, 207, 158, 159, 160, 161, 82, 291, 292, 293, 294, 295, 296, 297, 298, 299, 300, 301, 302, 303, 304, 305, 306, 307, 308, 309, 310, 311, 312, 313, 314, 315, 316, 317, 318, 319, 320, 321, 322, 12, 323, 324, 325, 30, 326, 36, 249, 250, 251, 252, 69, 257, 258, 259, 260, 13, 74, 261, 262, 263, 56, 264, 64, 58, 59, 102, 103, 104, 105, 106, 107, 108, 265, 266, 267, 268, 327, 328, 329, 330, 331, 332, 333, 334, 335, 336, 337, 338, 339, 340, 341, 342, 343, 368, 369, 348, 349, 350, 351, 352, 353, 354, 355, 356, 357, 358, 359] (by decide +kernel) (by decide +kernel)
set_option maxRecDepth 20000 in
theorem gX6_obey_X6_changeLock : GoodIn wsX6_obey (wsV RX6 322 RX6 yX6_changeLock wsX6_changeLock) := goodIn_app (goodIn_of _ (by decide +kernel)) ggX6_obey_X6_changeLock
theorem dX6_obey_0 : decode cX6_obey 0 = .ok (.iload_n 1, 1) := by decide +kernel
theorem dX6_obey_1 : decode cX6_obey 1 = .ok (.tableswitch 304 0 42 #[187, 192, 197, 202, 304, 304, 219, 207, 304, 304, 304, 304, 271, 213, 304, 304, 304, 237, 245, 304, 304, 225, 276, 231, 253, 262, 304, 304, 304, 304, 304, 304, 281, 287, 304, 304, 304, 304, 293, 304, 304, 304, 298], 187) := by decide +kernel
theorem dX6_obey_188 : decode cX6_obey 188 = .ok (.aload_n 0, 1) := by decide +kernel
theorem dX6_obey_189 : decode cX6_obey 189 = .ok (.invokevirtual 279, 3) := by decide +kernel
theorem dX6_obey_192 : decode cX6_obey 192 = .ok (.ireturn, 1) := by decide +kernel
theorem dX6_obey_193 : decode cX6_obey 193 = .ok (.aload_n 0, 1) := by decide +kernel
theorem dX6_obey_194 : decode cX6_obey 194 = .ok (.invokevirtual 282, 3) := by decide +kernel
theorem dX6_obey_197 : decode cX6_obey 197 = .ok (.ireturn, 1) := by decide +kernel
theorem dX6_obey_198 : decode cX6_obey 198 = .ok (.aload_n 0, 1) := by decide +kernel
theorem dX6_obey_199 : decode cX6_obey 199 = .ok (.invokevirtual 285, 3) := by decide +kernel
theorem dX6_obey_202 : decode cX6_obey 202 = .ok (.ireturn, 1) := by decide +kernel
theorem dX6_obey_203 : decode cX6_obey 203 = .ok (.aload_n 0, 1) := by decide +kernel
theorem dX6_obey_204 : decode cX6_obey 204 = .ok (.invokevirtual 288, 3) := by decide +kernel
theorem dX6_obey_207 : decode cX6_obey 207 = .ok (.ireturn, 1) := by decide +kernel
theorem dX6_obey_208 : decode cX6_obey 208 = .ok (.aload_n 0, 1) := by decide +kernel
theorem dX6_obey_209 : decode cX6_obey 209 = .ok (.iload_n 2, 1) := by decide +kernel
theorem dX6_obey_210 : decode cX6_obey 210 = .ok (.invokevirtual 291, 3) := by decide +kernel
theorem dX6_obey_213 : decode cX6_obey 213 = .ok (.ireturn, 1) := by decide +kernel
theorem dX6_obey_214 : decode cX6_obey 214 = .ok (.aload_n 0, 1) := by decide +kernel
theorem dX6_obey_215 : decode cX6_obey 215 = .ok (.iload_n 2, 1) := by decide +kernel
theorem dX6_obey_216 : decode cX6_obey 216 = .ok (.invokevirtual 294, 3) := by decide +kernel
theorem dX6_obey_219 : decode cX6_obey 219 = .ok (.ireturn, 1) := by decide +kernel
theorem dX6_obey_220 : decode cX6_obey 220 = .ok (.aload_n 0, 1) := by decide +kernel
theorem dX6_obey_221 : decode cX6_obey 221 = .ok (.iload_n 2, 1) := by decide +kernel
theorem dX6_obey_222 : decode cX6_obey 222 = .ok (.invokevirtual 297, 3) := by decide +kernel
theorem dX6_obey_225 : decode cX6_obey 225 = .ok (.ireturn, 1) := by decide +kernel
theorem dX6_obey_226 : decode cX6_obey 226 = .ok (.aload_n 0, 1) := by decide +kernel
theorem dX6_obey_227 : decode cX6_obey 227 = .ok (.iload_n 2, 1) := by decide +kernel
theorem dX6_obey_228 : decode cX6_obey 228 = .ok (.invokevirtual 300, 3) := by decide +kernel
theorem dX6_obey_231 : decode cX6_obey 231 = .ok (.ireturn, 1) := by decide +kernel
theorem dX6_obey_232 : decode cX6_obey 232 = .ok (.aload_n 0, 1) := by decide +kernel
theorem dX6_obey_233 : decode cX6_obey 233 = .ok (.iload_n 2, 1) := by decide +kernel
theorem dX6_obey_234 : decode cX6_obey 234 = .ok (.invokevirtual 303, 3) := by decide +kernel
theorem dX6_obey_237 : decode cX6_obey 237 = .ok (.ireturn, 1) := by decide +kernel
theorem dX6_obey_238 : decode cX6_obey 238 = .ok (.aload_n 0, 1) := by decide +kernel
theorem dX6_obey_239 : decode cX6_obey 239 = .ok (.iconst 5, 1) := by decide +kernel
theorem dX6_obey_240 : decode cX6_obey 240 = .ok (.iload_n 2, 1) := by decide +kernel
theorem dX6_obey_241 : decode cX6_obey 241 = .ok (.iconst 1, 1) := by decide +kernel
theorem dX6_obey_242 : decode cX6_obey 242 = .ok (.invokevirtual 306, 3) := by decide +kernel
theorem dX6_obey_245 : decode cX6_obey 245 = .ok (.ireturn, 1) := by decide +kernel
theorem dX6_obey_246 : decode cX6_obey 246 = .ok (.aload_n 0, 1) := by decide +kernel
theorem dX6_obey_247 : decode cX6_obey 247 = .ok (.iconst 5, 1) := by decide +kernel
theorem dX6_obey_248 : decode cX6_obey 248 = .ok (.iload_n 2, 1) := by decide +kernel
theorem dX6_obey_249 : decode cX6_obey 249 = .ok (.iconst 0, 1) := by decide +kernel
theorem dX6_obey_250 : decode cX6_obey 250 = .ok (.invokevirtual 306, 3) := by decide +kernel
theorem dX6_obey_253 : decode cX6_obey 253 = .ok (.ireturn, 1) := by decide +kernel
theorem dX6_obey_254 : decode cX6_obey 254 = .ok (.aload_n 0, 1) := by decide +kernel
theorem dX6_obey_255 : decode cX6_obey 255 = .ok (.bipush 6, 2) := by decide +kernel
theorem dX6_obey_257 : decode cX6_obey 257 = .ok (.iload_n 2, 1) := by decide +kernel
theorem dX6_obey_258 : decode cX6_obey 258 = .ok (.iconst 1, 1) := by decide +kernel
theorem dX6_obey_259 : decode cX6_obey 259 = .ok (.invokevirtual 306, 3) := by decide +kernel
theorem dX6_obey_262 : decode cX6_obey 262 = .ok (.ireturn, 1) := by decide +kernel
theorem dX6_obey_263 : decode cX6_obey 263 = .ok (.aload_n 0, 1) := by decide +kernel
theorem dX6_obey_264 : decode cX6_obey 264 = .ok (.bipush 6, 2) := by decide +kernel
theorem dX6_obey_266 : decode cX6_obey 266 = .ok (.iload_n 2, 1) := by decide +kernel
theorem dX6_obey_267 : decode cX6_obey 267 = .ok (.iconst 0, 1) := by decide +kernel
theorem dX6_obey_268 : decode cX6_obey 268 = .ok (.invokevirtual 306, 3) := by decide +kernel
theorem dX6_obey_271 : decode cX6_obey 271 = .ok (.ireturn, 1) := by decide +kernel
theorem dX6_obey_272 : decode cX6_obey 272 = .ok (.aload_n 0, 1) := by decide +kernel
theorem dX6_obey_273 : decode cX6_obey 273 = .ok (.invokevirtual 310, 3) := by decide +kernel
theorem dX6_obey_276 : decode cX6_obey 276 = .ok (.ireturn, 1) := by decide +kernel
theorem dX6_obey_277 : decode cX6_obey 277 = .ok (.aload_n 0, 1) := by decide +kernel
theorem dX6_obey_278 : decode cX6_obey 278 = .ok (.getfield 204, 3) := by decide +kernel
theorem dX6_obey_281 : decode cX6_obey 281 = .ok (.ireturn, 1) := by decide +kernel
theorem dX6_obey_282 : decode cX6_obey 282 = .ok (.aload_n 0, 1) := by decide +kernel
theorem dX6_obey_283 : decode cX6_obey 283 = .ok (.iload_n 2, 1) := by decide +kernel
theorem dX6_obey_284 : decode cX6_obey 284 = .ok (.invokevirtual 313, 3) := by decide +kernel
theorem dX6_obey_287 : decode cX6_obey 287 = .ok (.ireturn, 1) := by decide +kernel
theorem dX6_obey_288 : decode cX6_obey 288 = .ok (.aload_n 0, 1) := by decide +kernel
theorem dX6_obey_289 : decode cX6_obey 289 = .ok (.iload_n 2, 1) := by decide +kernel
theorem dX6_obey_290 : decode cX6_obey 290 = .ok (.invokevirtual 316, 3) := by decide +kernel
theorem dX6_obey_293 : decode cX6_obey 293 = .ok (.ireturn, 1) := by decide +kernel
theorem dX6_obey_294 : decode cX6_obey 294 = .ok (.aload_n 0, 1) := by decide +kernel
theorem dX6_obey_295 : decode cX6_obey 295 = .ok (.invokevirtual 319, 3) := by decide +kernel
theorem dX6_obey_298 : decode cX6_obey 298 = .ok (.ireturn, 1) := by decide +kernel
theorem dX6_obey_299 : decode cX6_obey 299 = .ok (.aload_n 0, 1) := by decide +kernel
theorem dX6_obey_300 : decode cX6_obey 300 = .ok (.iload_n 2, 1) := by decide +kernel
theorem dX6_obey_301 : decode cX6_obey 301 = .ok (.invokevirtual 322, 3) := by decide +kernel
theorem dX6_obey_304 : decode cX6_obey 304 = .ok (.ireturn, 1) := by decide +kernel
theorem dX6_obey_305 : decode cX6_obey 305 = .ok (.bipush (-4), 2) := by decide +kernel
theorem dX6_obey_307 : decode cX6_obey 307 = .ok (.ireturn, 1) := by decide +kernel
set_option maxRecDepth 20000 in
theorem ggX6_reset_X6_tearUnfinished : GoodIn wsX6_reset wsX6_tearUnfinished := goodIn_r _ [5, 6, 7, 8, 9, 10, 11, 12, 13, 14, 15, 16, 17, 18, 19, 20, 21, 22, 23, 24, 25, 26, 27, 28, 29, 30, 31, 32, 33, 34, 35, 36, 37, 38, 39, 40, 41, 42, 43, 44, 45, 46, 47, 48, 49, 50, 51, 52, 53, 54, 55, 56, 57, 58, 59, 60, 61, 62, 63, 64, 120, 121, 122, 123, 124, 125, 126, 127, 128, 129, 130, 131, 132, 133, 134, 135, 136, 137, 138, 139, 140, 141, 142, 143, 144, 145, 146, 147, 148, 149, 150, 151, 152] (by decide +kernel) (by decide +kernel)
set_option maxRecDepth 20000 in
theorem gX6_reset_X6_tearUnfinished : GoodIn wsX6_reset (wsV RX6 72 RX6 yX6_tearUnfinished wsX6_tearUnfinished) := goodIn_app (goodIn_of _ (by decide +kernel)) ggX6_reset_X6_tearUnfinished
set_option maxRecDepth 20000 in
theorem ggX6_reset_X6_start : GoodIn wsX6_reset wsX6_start := goodIn_r _ [68, 69, 70, 71, 72, 73, 74, 4, 75, 76, 77, 78, 79, 6, 8, 80, 81, 82, 83, 84, 85, 86, 87, 88, 89, 90, 91, 12, 92, 14, 15, 93, 94, 95, 51, 96, 59, 53, 54, 97, 98, 99, 100, 101, 102, 103, 104, 105, 106, 107, 108, 109, 110, 111, 112, 113, 114, 115, 116, 117, 118, 119, 120, 121, 122, 123, 124, 125, 126, 127, 128, 129, 130, 131, 132, 133, 134, 135, 136, 153, 154, 155, 137, 138, 139, 140, 147, 148, 149, 150, 151, 152, 156, 157, 158, 159, 160, 161, 162] (by decide +kernel) (by decide +kernel)
set_option maxRecDepth 20000 in
theorem gX6_reset_X6_start : GoodIn wsX6_reset (wsV RX6 69 RX6 yX6_start wsX6_start) := goodIn_app (goodIn_of _ (by decide +kernel)) ggX6_reset_X6_start
theorem dX6_reset_0 : decode cX6_reset 0 = .ok (.aload_n 0, 1) := by decide +kernel
theorem dX6_reset_1 : decode cX6_reset 1 = .ok (.invokevirtual 72, 3) := by decide +kernel
theorem dX6_reset_4 : decode cX6_reset 4 = .ok (.aload_n 0, 1) := by decide +kernel
theorem dX6_reset_5 : decode cX6_reset 5 = .ok (.invokevirtual 69, 3) := by decide +kernel
theorem dX6_reset_8 : decode cX6_reset 8 = .ok (.iconst 0, 1) := by decide +kernel
theorem dX6_reset_9 : decode cX6_reset 9 = .ok (.ireturn, 1) := by decide +kernel
theorem dX6_wake_0 : decode cX6_wake 0 = .ok (.aload_n 0, 1) := by decide +kernel
theorem dX6_wake_1 : decode cX6_wake 1 = .ok (.dup, 1) := by decide +kernel
theorem dX6_wake_2 : decode cX6_wake 2 = .ok (.getfield 244, 3) := by decide +kernel
theorem dX6_wake_5 : decode cX6_wake 5 = .ok (.iconst 1, 1) := by decide +kernel
theorem dX6_wake_6 : decode cX6_wake 6 = .ok (.iadd, 1) := by decide +kernel
theorem dX6_wake_7 : decode cX6_wake 7 = .ok (.putfield 244, 3) := by decide +kernel
theorem dX6_wake_10 : decode cX6_wake 10 = .ok (.aload_n 0, 1) := by decide +kernel
theorem dX6_wake_11 : decode cX6_wake 11 = .ok (.getfield 244, 3) := by decide +kernel
theorem dX6_wake_14 : decode cX6_wake 14 = .ok (.aload_n 0, 1) := by decide +kernel
theorem dX6_wake_15 : decode cX6_wake 15 = .ok (.getfield 235, 3) := by decide +kernel
theorem dX6_wake_18 : decode cX6_wake 18 = .ok (.if_icmp .gt 5, 3) := by decide +kernel
theorem dX6_wake_21 : decode cX6_wake 21 = .ok (.iconst 0, 1) := by decide +kernel
theorem dX6_wake_22 : decode cX6_wake 22 = .ok (.ireturn, 1) := by decide +kernel
theorem dX6_wake_23 : decode cX6_wake 23 = .ok (.aload_n 0, 1) := by decide +kernel
theorem dX6_wake_24 : decode cX6_wake 24 = .ok (.iconst 1, 1) := by decide +kernel
theorem dX6_wake_25 : decode cX6_wake 25 = .ok (.putfield 111, 3) := by decide +kernel
theorem dX6_wake_28 : decode cX6_wake 28 = .ok (.iconst 1, 1) := by decide +kernel
theorem dX6_wake_29 : decode cX6_wake 29 = .ok (.ireturn, 1) := by decide +kernel
theorem dX6_tellNumber_0 : decode cX6_tellNumber 0 = .ok (.aload_n 0, 1) := by decide +kernel
theorem dX6_tellNumber_1 : decode cX6_tellNumber 1 = .ok (.iconst 2, 1) := by decide +kernel
theorem dX6_tellNumber_2 : decode cX6_tellNumber 2 = .ok (.putfield 111, 3) := by decide +kernel
theorem dX6_tellNumber_5 : decode cX6_tellNumber 5 = .ok (.aload_n 0, 1) := by decide +kernel
theorem dX6_tellNumber_6 : decode cX6_tellNumber 6 = .ok (.getfield 238, 3) := by decide +kernel
theorem dX6_tellNumber_9 : decode cX6_tellNumber 9 = .ok (.ireturn, 1) := by decide +kernel
theorem dX6_takeAddress_0 : decode cX6_takeAddress 0 = .ok (.aload_n 0, 1) := by decide +kernel
theorem dX6_takeAddress_1 : decode cX6_takeAddress 1 = .ok (.dup, 1) := by decide +kernel
theorem dX6_takeAddress_2 : decode cX6_takeAddress 2 = .ok (.getfield 185, 3) := by decide +kernel
theorem dX6_takeAddress_5 : decode cX6_takeAddress 5 = .ok (.iconst 1, 1) := by decide +kernel
theorem dX6_takeAddress_6 : decode cX6_takeAddress 6 = .ok (.iadd, 1) := by decide +kernel
theorem dX6_takeAddress_7 : decode cX6_takeAddress 7 = .ok (.putfield 185, 3) := by decide +kernel
theorem dX6_takeAddress_10 : decode cX6_takeAddress 10 = .ok (.aload_n 0, 1) := by decide +kernel
theorem dX6_takeAddress_11 : decode cX6_takeAddress 11 = .ok (.iconst 3, 1) := by decide +kernel
theorem dX6_takeAddress_12 : decode cX6_takeAddress 12 = .ok (.putfield 111, 3) := by decide +kernel
theorem dX6_takeAddress_15 : decode cX6_takeAddress 15 = .ok (.aload_n 0, 1) := by decide +kernel
theorem dX6_takeAddress_16 : decode cX6_takeAddress 16 = .ok (.getfield 185, 3) := by decide +kernel
theorem dX6_takeAddress_19 : decode cX6_takeAddress 19 = .ok (.ireturn, 1) := by decide +kernel
theorem dX6_choose_0 : decode cX6_choose 0 = .ok (.iload_n 1, 1) := by decide +kernel
theorem dX6_choose_1 : decode cX6_choose 1 = .ok (.aload_n 0, 1) := by decide +kernel
theorem dX6_choose_2 : decode cX6_choose 2 = .ok (.getfield 185, 3) := by decide +kernel
theorem dX6_choose_5 : decode cX6_choose 5 = .ok (.if_icmp .ne 7, 3) := by decide +kernel
theorem dX6_choose_8 : decode cX6_choose 8 = .ok (.iconst 1, 1) := by decide +kernel
theorem dX6_choose_9 : decode cX6_choose 9 = .ok (.goto 4, 3) := by decide +kernel
theorem dX6_choose_12 : decode cX6_choose 12 = .ok (.iconst 0, 1) := by decide +kernel
theorem dX6_choose_13 : decode cX6_choose 13 = .ok (.istore_n 2, 1) := by decide +kernel
theorem dX6_choose_14 : decode cX6_choose 14 = .ok (.aload_n 0, 1) := by decide +kernel
theorem dX6_choose_15 : decode cX6_choose 15 = .ok (.getfield 111, 3) := by decide +kernel
theorem dX6_choose_18 : decode cX6_choose 18 = .ok (.iconst 3, 1) := by decide +kernel
theorem dX6_choose_19 : decode cX6_choose 19 = .ok (.if_icmp .ne 14, 3) := by decide +kernel
theorem dX6_choose_22 : decode cX6_choose 22 = .ok (.iload_n 2, 1) := by decide +kernel
theorem dX6_choose_23 : decode cX6_choose 23 = .ok (.ifCond .eq 10, 3) := by decide +kernel
theorem dX6_choose_26 : decode cX6_choose 26 = .ok (.aload_n 0, 1) := by decide +kernel
theorem dX6_choose_27 : decode cX6_choose 27 = .ok (.iconst 4, 1) := by decide +kernel
theorem dX6_choose_28 : decode cX6_choose 28 = .ok (.putfield 111, 3) := by decide +kernel
theorem dX6_choose_31 : decode cX6_choose 31 = .ok (.iconst 1, 1) := by decide +kernel
theorem dX6_choose_32 : decode cX6_choose 32 = .ok (.ireturn, 1) := by decide +kernel
theorem dX6_choose_33 : decode cX6_choose 33 = .ok (.iload_n 2, 1) := by decide +kernel
theorem dX6_choose_34 : decode cX6_choose 34 = .ok (.ifCond .ne 8, 3) := by decide +kernel
theorem dX6_choose_37 : decode cX6_choose 37 = .ok (.aload_n 0, 1) := by decide +kernel
theorem dX6_choose_38 : decode cX6_choose 38 = .ok (.iconst 3, 1) := by decide +kernel
theorem dX6_choose_39 : decode cX6_choose 39 = .ok (.putfield 111, 3) := by decide +kernel
theorem dX6_choose_42 : decode cX6_choose 42 = .ok (.bipush (-4), 2) := by decide +kernel
theorem dX6_choose_44 : decode cX6_choose 44 = .ok (.ireturn, 1) := by decide +kernel
set_option maxRecDepth 20000 in
theorem ggX6_tellStatus_X6_asNumber : GoodIn wsX6_tellStatus wsX6_asNumber := goodIn_r _ [8] (by decide +kernel) (by decide +kernel)
set_option maxRecDepth 20000 in
theorem gX6_tellStatus_X6_asNumber : GoodIn wsX6_tellStatus (va_wsS RX6 162 yX6_asNumber wsX6_asNumber) := goodIn_app (goodIn_of _ (by decide +kernel)) ggX6_tellStatus_X6_asNumber
theorem dX6_tellStatus_0 : decode cX6_tellStatus 0 = .ok (.iload_n 1, 1) := by decide +kernel
theorem dX6_tellStatus_1 : decode cX6_tellStatus 1 = .ok (.aload_n 0, 1) := by decide +kernel
theorem dX6_tellStatus_2 : decode cX6_tellStatus 2 = .ok (.getfield 185, 3) := by decide +kernel
theorem dX6_tellStatus_5 : decode cX6_tellStatus 5 = .ok (.if_icmp .eq 6, 3) := by decide +kernel
theorem dX6_tellStatus_8 : decode cX6_tellStatus 8 = .ok (.bipush (-4), 2) := by decide +kernel
theorem dX6_tellStatus_10 : decode cX6_tellStatus 10 = .ok (.ireturn, 1) := by decide +kernel
theorem dX6_tellStatus_11 : decode cX6_tellStatus 11 = .ok (.sipush 256, 3) := by decide +kernel
theorem dX6_tellStatus_14 : decode cX6_tellStatus 14 = .ok (.aload_n 0, 1) := by decide +kernel
theorem dX6_tellStatus_15 : decode cX6_tellStatus 15 = .ok (.getfield 111, 3) := by decide +kernel
theorem dX6_tellStatus_18 : decode cX6_tellStatus 18 = .ok (.imul, 1) := by decide +kernel
theorem dX6_tellStatus_19 : decode cX6_tellStatus 19 = .ok (.sipush 128, 3) := by decide +kernel
theorem dX6_tellStatus_22 : decode cX6_tellStatus 22 = .ok (.aload_n 0, 1) := by decide +kernel
theorem dX6_tellStatus_23 : decode cX6_tellStatus 23 = .ok (.getfield 197, 3) := by decide +kernel
theorem dX6_tellStatus_26 : decode cX6_tellStatus 26 = .ok (.invokestatic 162, 3) := by decide +kernel
theorem dX6_tellStatus_29 : decode cX6_tellStatus 29 = .ok (.imul, 1) := by decide +kernel
theorem dX6_tellStatus_30 : decode cX6_tellStatus 30 = .ok (.iadd, 1) := by decide +kernel
theorem dX6_tellStatus_31 : decode cX6_tellStatus 31 = .ok (.aload_n 0, 1) := by decide +kernel
theorem dX6_tellStatus_32 : decode cX6_tellStatus 32 = .ok (.getfield 201, 3) := by decide +kernel
theorem dX6_tellStatus_35 : decode cX6_tellStatus 35 = .ok (.iadd, 1) := by decide +kernel
theorem dX6_tellStatus_36 : decode cX6_tellStatus 36 = .ok (.istore_n 2, 1) := by decide +kernel
theorem dX6_tellStatus_37 : decode cX6_tellStatus 37 = .ok (.aload_n 0, 1) := by decide +kernel
theorem dX6_tellStatus_38 : decode cX6_tellStatus 38 = .ok (.iconst 0, 1) := by decide +kernel
theorem dX6_tellStatus_39 : decode cX6_tellStatus 39 = .ok (.putfield 201, 3) := by decide +kernel
theorem dX6_tellStatus_42 : decode cX6_tellStatus 42 = .ok (.iload_n 2, 1) := by decide +kernel
theorem dX6_tellStatus_43 : decode cX6_tellStatus 43 = .ok (.ireturn, 1) := by decide +kernel
set_option maxRecDepth 20000 in
theorem ggX6_switchLines_X2_change : GoodIn wsX6_switchLines wsX2_change := goodIn_r _ [6, 7, 8, 40, 41, 42] (by decide +kernel) (by decide +kernel)
set_option maxRecDepth 20000 in
theorem gX6_switchLines_X2_change : GoodIn wsX6_switchLines (wsV RX6 325 RX2 yX2_change wsX2_change) := goodIn_app (goodIn_of _ (by decide +kernel)) ggX6_switchLines_X2_change
set_option maxRecDepth 20000 in
theorem ggX6_switchLines_X6_note : GoodIn wsX6_switchLines wsX6_note := goodIn_r _ [13, 14, 23, 24, 25, 26, 27, 28, 29, 30, 31, 32, 33, 34, 35, 36, 37, 38, 39] (by decide +kernel) (by decide +kernel)
set_option maxRecDepth 20000 in
theorem gX6_switchLines_X6_note : GoodIn wsX6_switchLines (wsV RX6 135 RX6 yX6_note wsX6_note) := goodIn_app (goodIn_of _ (by decide +kernel)) ggX6_switchLines_X6_note
set_option maxRecDepth 20000 in
theorem ggX6_switchLines_X2_speed : GoodIn wsX6_switchLines wsX2_speed := goodIn_r _ [18, 7, 40, 41, 42] (by decide +kernel) (by decide +kernel)
set_option maxRecDepth 20000 in
theorem gX6_switchLines_X2_speed : GoodIn wsX6_switchLines (wsV RX6 191 RX2 yX2_speed wsX2_speed) := goodIn_app (goodIn_of _ (by decide +kernel)) ggX6_switchLines_X2_speed
set_option maxRecDepth 20000 in
theorem ggX6_switchLines_X2_lines : GoodIn wsX6_switchLines wsX2_lines := goodIn_r _ [22, 8, 40, 41, 42] (by decide +kernel) (by decide +kernel)
set_option maxRecDepth 20000 in
theorem gX6_switchLines_X2_lines : GoodIn wsX6_switchLines (wsV RX6 188 RX2 yX2_lines wsX2_lines) := goodIn_app (goodIn_of _ (by decide +kernel)) ggX6_switchLines_X2_lines
theorem dX6_switchLines_0 : decode cX6_switchLines 0 = .ok (.aload_n 0, 1) := by decide +kernel
theorem dX6_switchLines_1 : decode cX6_switchLines 1 = .ok (.getfield 52, 3) := by decide +kernel
theorem dX6_switchLines_4 : decode cX6_switchLines 4 = .ok (.iload_n 1, 1) := by decide +kernel
theorem dX6_switchLines_5 : decode cX6_switchLines 5 = .ok (.iconst 4, 1) := by decide +kernel
theorem dX6_switchLines_6 : decode cX6_switchLines 6 = .ok (.idiv, 1) := by decide +kernel
theorem dX6_switchLines_7 : decode cX6_switchLines 7 = .ok (.iload_n 1, 1) := by decide +kernel
theorem dX6_switchLines_8 : decode cX6_switchLines 8 = .ok (.iconst 4, 1) := by decide +kernel
theorem dX6_switchLines_9 : decode cX6_switchLines 9 = .ok (.irem, 1) := by decide +kernel
theorem dX6_switchLines_10 : decode cX6_switchLines 10 = .ok (.invokevirtual 325, 3) := by decide +kernel
theorem dX6_switchLines_13 : decode cX6_switchLines 13 = .ok (.ifCond .ne 9, 3) := by decide +kernel
theorem dX6_switchLines_16 : decode cX6_switchLines 16 = .ok (.aload_n 0, 1) := by decide +kernel
theorem dX6_switchLines_17 : decode cX6_switchLines 17 = .ok (.bipush 32, 2) := by decide +kernel
theorem dX6_switchLines_19 : decode cX6_switchLines 19 = .ok (.invokevirtual 135, 3) := by decide +kernel
theorem dX6_switchLines_22 : decode cX6_switchLines 22 = .ok (.iconst 4, 1) := by decide +kernel
theorem dX6_switchLines_23 : decode cX6_switchLines 23 = .ok (.aload_n 0, 1) := by decide +kernel
theorem dX6_switchLines_24 : decode cX6_switchLines 24 = .ok (.getfield 52, 3) := by decide +kernel
theorem dX6_switchLines_27 : decode cX6_switchLines 27 = .ok (.invokevirtual 191, 3) := by decide +kernel
theorem dX6_switchLines_30 : decode cX6_switchLines 30 = .ok (.imul, 1) := by decide +kernel
theorem dX6_switchLines_31 : decode cX6_switchLines 31 = .ok (.aload_n 0, 1) := by decide +kernel
theorem dX6_switchLines_32 : decode cX6_switchLines 32 = .ok (.getfield 52, 3) := by decide +kernel
theorem dX6_switchLines_35 : decode cX6_switchLines 35 = .ok (.invokevirtual 188, 3) := by decide +kernel
theorem dX6_switchLines_38 : decode cX6_switchLines 38 = .ok (.iadd, 1) := by decide +kernel
theorem dX6_switchLines_39 : decode cX6_switchLines 39 = .ok (.ireturn, 1) := by decide +kernel
set_option maxRecDepth 20000 in
theorem ggX6_movePoint_X2_look : GoodIn wsX6_movePoint wsX2_look := goodIn_r _ [7, 8, 43, 44, 45] (by decide +kernel) (by decide +kernel)
set_option maxRecDepth 20000 in
theorem gX6_movePoint_X2_look : GoodIn wsX6_movePoint (wsV RX6 328 RX2 yX2_look wsX2_look) := goodIn_app (goodIn_of _ (by decide +kernel)) ggX6_movePoint_X2_look
set_option maxRecDepth 20000 in
theorem ggX6_movePoint_X2_isInWindow : GoodIn wsX6_movePoint wsX2_isInWindow := goodIn_r _ [12, 13, 8, 14, 15, 16, 17, 18, 19, 20, 21, 43, 44, 45] (by decide +kernel) (by decide +kernel)
set_option maxRecDepth 20000 in
theorem gX6_movePoint_X2_isInWindow : GoodIn wsX6_movePoint (wsV RX6 132 RX2 yX2_isInWindow wsX2_isInWindow) := goodIn_app (goodIn_of _ (by decide +kernel)) ggX6_movePoint_X2_isInWindow
set_option maxRecDepth 20000 in
theorem ggX6_movePoint_X6_asNumber : GoodIn wsX6_movePoint wsX6_asNumber := goodIn_r _ [25] (by decide +kernel) (by decide +kernel)
set_option maxRecDepth 20000 in
theorem gX6_movePoint_X6_asNumber : GoodIn wsX6_movePoint (va_wsS RX6 162 yX6_asNumber wsX6_asNumber) := goodIn_app (goodIn_of _ (by decide +kernel)) ggX6_movePoint_X6_asNumber
theorem dX6_movePoint_0 : decode cX6_movePoint 0 = .ok (.aload_n 0, 1) := by decide +kernel
theorem dX6_movePoint_1 : decode cX6_movePoint 1 = .ok (.getfield 52, 3) := by decide +kernel
theorem dX6_movePoint_4 : decode cX6_movePoint 4 = .ok (.iload_n 1, 1) := by decide +kernel
theorem dX6_movePoint_5 : decode cX6_movePoint 5 = .ok (.bipush 16, 2) := by decide +kernel
theorem dX6_movePoint_7 : decode cX6_movePoint 7 = .ok (.irem, 1) := by decide +kernel
theorem dX6_movePoint_8 : decode cX6_movePoint 8 = .ok (.invokevirtual 328, 3) := by decide +kernel
theorem dX6_movePoint_11 : decode cX6_movePoint 11 = .ok (.aload_n 0, 1) := by decide +kernel
theorem dX6_movePoint_12 : decode cX6_movePoint 12 = .ok (.getfield 52, 3) := by decide +kernel
theorem dX6_movePoint_15 : decode cX6_movePoint 15 = .ok (.aload_n 0, 1) := by decide +kernel
theorem dX6_movePoint_16 : decode cX6_movePoint 16 = .ok (.getfield 78, 3) := by decide +kernel
theorem dX6_movePoint_19 : decode cX6_movePoint 19 = .ok (.invokevirtual 132, 3) := by decide +kernel
theorem dX6_movePoint_22 : decode cX6_movePoint 22 = .ok (.invokestatic 162, 3) := by decide +kernel
theorem dX6_movePoint_25 : decode cX6_movePoint 25 = .ok (.ireturn, 1) := by decide +kernel
set_option maxRecDepth 20000 in
theorem ggX6_expect_X5_expect : GoodIn wsX6_expect wsX5_expect := goodIn_r _ [6, 7, 25, 26, 27, 28, 29] (by decide +kernel) (by decide +kernel)
set_option maxRecDepth 20000 in
theorem gX6_expect_X5_expect : GoodIn wsX6_expect (wsV RX6 331 RX5 yX5_expect wsX5_expect) := goodIn_app (goodIn_of _ (by decide +kernel)) ggX6_expect_X5_expect
theorem dX6_expect_0 : decode cX6_expect 0 = .ok (.aload_n 0, 1) := by decide +kernel
theorem dX6_expect_1 : decode cX6_expect 1 = .ok (.getfield 45, 3) := by decide +kernel
theorem dX6_expect_4 : decode cX6_expect 4 = .ok (.iload_n 1, 1) := by decide +kernel
theorem dX6_expect_5 : decode cX6_expect 5 = .ok (.invokevirtual 331, 3) := by decide +kernel
theorem dX6_expect_8 : decode cX6_expect 8 = .ok (.iload_n 1, 1) := by decide +kernel
theorem dX6_expect_9 : decode cX6_expect 9 = .ok (.ireturn, 1) := by decide +kernel
set_option maxRecDepth 20000 in
theorem ggX6_beginStream_X3_has : GoodIn wsX6_beginStream wsX3_has := goodIn_r _ [9, 10, 48, 49, 50, 51, 52, 53] (by decide +kernel) (by decide +kernel)
set_option maxRecDepth 20000 in
theorem gX6_beginStream_X3_has : GoodIn wsX6_beginStream (wsV RX6 123 RX3 yX3_has wsX3_has) := goodIn_app (goodIn_of _ (by decide +kernel)) ggX6_beginStream_X3_has
set_option maxRecDepth 20000 in
theorem ggX6_beginStream_X6_refuse : GoodIn wsX6_beginStream wsX6_refuse := goodIn_r _ [15, 16, 17, 18, 14, 19, 20, 31, 32, 33, 34, 35, 36, 37, 38, 39, 40, 41, 42, 43, 44, 45, 46, 47] (by decide +kernel) (by decide +kernel)
end
section
set_option maxRecDepth 20000 in
theorem gX6_beginStream_X6_refuse : GoodIn wsX6_beginStream (wsV RX6 126 RX6 yX6_refuse wsX6_refuse) := goodIn_app (goodIn_of _ (by decide +kernel)) ggX6_beginStream_X6_refuse
set_option maxRecDepth 20000 in
theorem ggX6_beginStream_X5_begin : GoodIn wsX6_beginStream wsX5_begin := goodIn_r _ [25, 26, 27, 28, 29, 30, 54, 55, 56, 57, 58] (by decide +kernel) (by decide +kernel)
set_option maxRecDepth 20000 in
theorem gX6_beginStream_X5_begin : GoodIn wsX6_beginStream (wsV RX6 333 RX5 yX5_begin wsX5_begin) := goodIn_app (goodIn_of _ (by decide +kernel)) ggX6_beginStream_X5_begin
theorem dX6_beginStream_0 : decode cX6_beginStream 0 = .ok (.aload_n 0, 1) := by decide +kernel
theorem dX6_beginStream_1 : decode cX6_beginStream 1 = .ok (.getfield 10, 3) := by decide +kernel
theorem dX6_beginStream_4 : decode cX6_beginStream 4 = .ok (.iload_n 2, 1) := by decide +kernel
theorem dX6_beginStream_5 : decode cX6_beginStream 5 = .ok (.invokevirtual 123, 3) := by decide +kernel
theorem dX6_beginStream_8 : decode cX6_beginStream 8 = .ok (.ifCond .ne 9, 3) := by decide +kernel
theorem dX6_beginStream_11 : decode cX6_beginStream 11 = .ok (.aload_n 0, 1) := by decide +kernel
theorem dX6_beginStream_12 : decode cX6_beginStream 12 = .ok (.iconst 4, 1) := by decide +kernel
theorem dX6_beginStream_13 : decode cX6_beginStream 13 = .ok (.invokevirtual 126, 3) := by decide +kernel
theorem dX6_beginStream_16 : decode cX6_beginStream 16 = .ok (.ireturn, 1) := by decide +kernel
theorem dX6_beginStream_17 : decode cX6_beginStream 17 = .ok (.aload_n 0, 1) := by decide +kernel
theorem dX6_beginStream_18 : decode cX6_beginStream 18 = .ok (.getfield 45, 3) := by decide +kernel
theorem dX6_beginStream_21 : decode cX6_beginStream 21 = .ok (.iload_n 2, 1) := by decide +kernel
theorem dX6_beginStream_22 : decode cX6_beginStream 22 = .ok (.iload_n 3, 1) := by decide +kernel
theorem dX6_beginStream_23 : decode cX6_beginStream 23 = .ok (.invokevirtual 333, 3) := by decide +kernel
theorem dX6_beginStream_26 : decode cX6_beginStream 26 = .ok (.aload_n 0, 1) := by decide +kernel
theorem dX6_beginStream_27 : decode cX6_beginStream 27 = .ok (.iload_n 1, 1) := by decide +kernel
theorem dX6_beginStream_28 : decode cX6_beginStream 28 = .ok (.putfield 111, 3) := by decide +kernel
theorem dX6_beginStream_31 : decode cX6_beginStream 31 = .ok (.iload_n 1, 1) := by decide +kernel
theorem dX6_beginStream_32 : decode cX6_beginStream 32 = .ok (.bipush 6, 2) := by decide +kernel
theorem dX6_beginStream_34 : decode cX6_beginStream 34 = .ok (.if_icmp .ne 8, 3) := by decide +kernel
theorem dX6_beginStream_37 : decode cX6_beginStream 37 = .ok (.aload_n 0, 1) := by decide +kernel
theorem dX6_beginStream_38 : decode cX6_beginStream 38 = .ok (.iconst 0, 1) := by decide +kernel
theorem dX6_beginStream_39 : decode cX6_beginStream 39 = .ok (.putfield 204, 3) := by decide +kernel
theorem dX6_beginStream_42 : decode cX6_beginStream 42 = .ok (.iconst 0, 1) := by decide +kernel
theorem dX6_beginStream_43 : decode cX6_beginStream 43 = .ok (.ireturn, 1) := by decide +kernel
set_option maxRecDepth 20000 in
theorem ggX6_stop_X4_size : GoodIn wsX6_stop wsX4_size := goodIn_r _ [7, 8, 26, 27, 28, 29] (by decide +kernel) (by decide +kernel)
set_option maxRecDepth 20000 in
theorem gX6_stop_X4_size : GoodIn wsX6_stop (wsV RX6 175 RX4 yX4_size wsX4_size) := goodIn_app (goodIn_of _ (by decide +kernel)) ggX6_stop_X4_size
theorem dX6_stop_0 : decode cX6_stop 0 = .ok (.aload_n 0, 1) := by decide +kernel
theorem dX6_stop_1 : decode cX6_stop 1 = .ok (.getfield 31, 3) := by decide +kernel
theorem dX6_stop_4 : decode cX6_stop 4 = .ok (.invokevirtual 175, 3) := by decide +kernel
theorem dX6_stop_7 : decode cX6_stop 7 = .ok (.istore_n 1, 1) := by decide +kernel
theorem dX6_stop_8 : decode cX6_stop 8 = .ok (.aload_n 0, 1) := by decide +kernel
theorem dX6_stop_9 : decode cX6_stop 9 = .ok (.iload_n 1, 1) := by decide +kernel
theorem dX6_stop_10 : decode cX6_stop 10 = .ok (.ifCond .le 8, 3) := by decide +kernel
theorem dX6_stop_13 : decode cX6_stop 13 = .ok (.bipush 7, 2) := by decide +kernel
theorem dX6_stop_15 : decode cX6_stop 15 = .ok (.goto 4, 3) := by decide +kernel
theorem dX6_stop_18 : decode cX6_stop 18 = .ok (.iconst 4, 1) := by decide +kernel
theorem dX6_stop_19 : decode cX6_stop 19 = .ok (.putfield 111, 3) := by decide +kernel
theorem dX6_stop_22 : decode cX6_stop 22 = .ok (.iload_n 1, 1) := by decide +kernel
theorem dX6_stop_23 : decode cX6_stop 23 = .ok (.ireturn, 1) := by decide +kernel
set_option maxRecDepth 20000 in
theorem ggX6_eraseFrom_X3_has : GoodIn wsX6_eraseFrom wsX3_has := goodIn_r _ [7, 8, 43, 44, 45, 46, 47, 48] (by decide +kernel) (by decide +kernel)
set_option maxRecDepth 20000 in
theorem gX6_eraseFrom_X3_has : GoodIn wsX6_eraseFrom (wsV RX6 123 RX3 yX3_has wsX3_has) := goodIn_app (goodIn_of _ (by decide +kernel)) ggX6_eraseFrom_X3_has
set_option maxRecDepth 20000 in
theorem ggX6_eraseFrom_X6_refuse : GoodIn wsX6_eraseFrom wsX6_refuse := goodIn_r _ [13, 14, 15, 16, 12, 17, 18, 26, 27, 28, 29, 30, 31, 32, 33, 34, 35, 36, 37, 38, 39, 40, 41, 42] (by decide +kernel) (by decide +kernel)
set_option maxRecDepth 20000 in
theorem gX6_eraseFrom_X6_refuse : GoodIn wsX6_eraseFrom (wsV RX6 126 RX6 yX6_refuse wsX6_refuse) := goodIn_app (goodIn_of _ (by decide +kernel)) ggX6_eraseFrom_X6_refuse
set_option maxRecDepth 20000 in
theorem ggX6_eraseFrom_X0_beginFrom : GoodIn wsX6_eraseFrom wsX0_beginFrom := goodIn_r _ [23, 24, 25, 49, 50, 51, 52, 53, 54] (by decide +kernel) (by decide +kernel)
set_option maxRecDepth 20000 in
theorem gX6_eraseFrom_X0_beginFrom : GoodIn wsX6_eraseFrom (wsV RX6 337 RX0 yX0_beginFrom wsX0_beginFrom) := goodIn_app (goodIn_of _ (by decide +kernel)) ggX6_eraseFrom_X0_beginFrom
theorem dX6_eraseFrom_0 : decode cX6_eraseFrom 0 = .ok (.aload_n 0, 1) := by decide +kernel
theorem dX6_eraseFrom_1 : decode cX6_eraseFrom 1 = .ok (.getfield 10, 3) := by decide +kernel
theorem dX6_eraseFrom_4 : decode cX6_eraseFrom 4 = .ok (.iload_n 1, 1) := by decide +kernel
theorem dX6_eraseFrom_5 : decode cX6_eraseFrom 5 = .ok (.invokevirtual 123, 3) := by decide +kernel
theorem dX6_eraseFrom_8 : decode cX6_eraseFrom 8 = .ok (.ifCond .ne 9, 3) := by decide +kernel
theorem dX6_eraseFrom_11 : decode cX6_eraseFrom 11 = .ok (.aload_n 0, 1) := by decide +kernel
theorem dX6_eraseFrom_12 : decode cX6_eraseFrom 12 = .ok (.iconst 4, 1) := by decide +kernel
theorem dX6_eraseFrom_13 : decode cX6_eraseFrom 13 = .ok (.invokevirtual 126, 3) := by decide +kernel
theorem dX6_eraseFrom_16 : decode cX6_eraseFrom 16 = .ok (.ireturn, 1) := by decide +kernel
theorem dX6_eraseFrom_17 : decode cX6_eraseFrom 17 = .ok (.aload_n 0, 1) := by decide +kernel
theorem dX6_eraseFrom_18 : decode cX6_eraseFrom 18 = .ok (.getfield 38, 3) := by decide +kernel
theorem dX6_eraseFrom_21 : decode cX6_eraseFrom 21 = .ok (.iload_n 1, 1) := by decide +kernel
theorem dX6_eraseFrom_22 : decode cX6_eraseFrom 22 = .ok (.invokevirtual 337, 3) := by decide +kernel
theorem dX6_eraseFrom_25 : decode cX6_eraseFrom 25 = .ok (.iconst 0, 1) := by decide +kernel
theorem dX6_eraseFrom_26 : decode cX6_eraseFrom 26 = .ok (.ireturn, 1) := by decide +kernel
set_option maxRecDepth 20000 in
theorem ggX6_eraseTo_X3_has : GoodIn wsX6_eraseTo wsX3_has := goodIn_r _ [7, 8, 48, 49, 50, 51, 52, 53] (by decide +kernel) (by decide +kernel)
set_option maxRecDepth 20000 in
theorem gX6_eraseTo_X3_has : GoodIn wsX6_eraseTo (wsV RX6 123 RX3 yX3_has wsX3_has) := goodIn_app (goodIn_of _ (by decide +kernel)) ggX6_eraseTo_X3_has
set_option maxRecDepth 20000 in
theorem ggX6_eraseTo_X0_forget : GoodIn wsX6_eraseTo wsX0_forget := goodIn_r _ [13, 14, 15, 16, 54, 55, 56, 57, 58, 59] (by decide +kernel) (by decide +kernel)
set_option maxRecDepth 20000 in
theorem gX6_eraseTo_X0_forget : GoodIn wsX6_eraseTo (wsV RX6 273 RX0 yX0_forget wsX0_forget) := goodIn_app (goodIn_of _ (by decide +kernel)) ggX6_eraseTo_X0_forget
set_option maxRecDepth 20000 in
theorem ggX6_eraseTo_X6_refuse : GoodIn wsX6_eraseTo wsX6_refuse := goodIn_r _ [21, 22, 23, 24, 20, 25, 26, 31, 32, 33, 34, 35, 36, 37, 38, 39, 40, 41, 42, 43, 44, 45, 46, 47] (by decide +kernel) (by decide +kernel)
set_option maxRecDepth 20000 in
theorem gX6_eraseTo_X6_refuse : GoodIn wsX6_eraseTo (wsV RX6 126 RX6 yX6_refuse wsX6_refuse) := goodIn_app (goodIn_of _ (by decide +kernel)) ggX6_eraseTo_X6_refuse
set_option maxRecDepth 20000 in
theorem ggX6_eraseTo_X0_continueTo : GoodIn wsX6_eraseTo wsX0_continueTo := goodIn_r _ [30, 14, 15, 16, 54, 55, 56, 57, 58, 59] (by decide +kernel) (by decide +kernel)
set_option maxRecDepth 20000 in
theorem gX6_eraseTo_X0_continueTo : GoodIn wsX6_eraseTo (wsV RX6 340 RX0 yX0_continueTo wsX0_continueTo) := goodIn_app (goodIn_of _ (by decide +kernel)) ggX6_eraseTo_X0_continueTo
theorem dX6_eraseTo_0 : decode cX6_eraseTo 0 = .ok (.aload_n 0, 1) := by decide +kernel
theorem dX6_eraseTo_1 : decode cX6_eraseTo 1 = .ok (.getfield 10, 3) := by decide +kernel
theorem dX6_eraseTo_4 : decode cX6_eraseTo 4 = .ok (.iload_n 1, 1) := by decide +kernel
theorem dX6_eraseTo_5 : decode cX6_eraseTo 5 = .ok (.invokevirtual 123, 3) := by decide +kernel
theorem dX6_eraseTo_8 : decode cX6_eraseTo 8 = .ok (.ifCond .ne 16, 3) := by decide +kernel
theorem dX6_eraseTo_11 : decode cX6_eraseTo 11 = .ok (.aload_n 0, 1) := by decide +kernel
theorem dX6_eraseTo_12 : decode cX6_eraseTo 12 = .ok (.getfield 38, 3) := by decide +kernel
theorem dX6_eraseTo_15 : decode cX6_eraseTo 15 = .ok (.invokevirtual 273, 3) := by decide +kernel
theorem dX6_eraseTo_18 : decode cX6_eraseTo 18 = .ok (.aload_n 0, 1) := by decide +kernel
theorem dX6_eraseTo_19 : decode cX6_eraseTo 19 = .ok (.iconst 4, 1) := by decide +kernel
theorem dX6_eraseTo_20 : decode cX6_eraseTo 20 = .ok (.invokevirtual 126, 3) := by decide +kernel
theorem dX6_eraseTo_23 : decode cX6_eraseTo 23 = .ok (.ireturn, 1) := by decide +kernel
theorem dX6_eraseTo_24 : decode cX6_eraseTo 24 = .ok (.aload_n 0, 1) := by decide +kernel
theorem dX6_eraseTo_25 : decode cX6_eraseTo 25 = .ok (.getfield 38, 3) := by decide +kernel
theorem dX6_eraseTo_28 : decode cX6_eraseTo 28 = .ok (.iload_n 1, 1) := by decide +kernel
theorem dX6_eraseTo_29 : decode cX6_eraseTo 29 = .ok (.invokevirtual 340, 3) := by decide +kernel
theorem dX6_eraseTo_32 : decode cX6_eraseTo 32 = .ok (.ifCond .ne 17, 3) := by decide +kernel
theorem dX6_eraseTo_35 : decode cX6_eraseTo 35 = .ok (.aload_n 0, 1) := by decide +kernel
theorem dX6_eraseTo_36 : decode cX6_eraseTo 36 = .ok (.getfield 38, 3) := by decide +kernel
theorem dX6_eraseTo_39 : decode cX6_eraseTo 39 = .ok (.invokevirtual 273, 3) := by decide +kernel
theorem dX6_eraseTo_42 : decode cX6_eraseTo 42 = .ok (.aload_n 0, 1) := by decide +kernel
theorem dX6_eraseTo_43 : decode cX6_eraseTo 43 = .ok (.bipush 8, 2) := by decide +kernel
theorem dX6_eraseTo_45 : decode cX6_eraseTo 45 = .ok (.invokevirtual 126, 3) := by decide +kernel
theorem dX6_eraseTo_48 : decode cX6_eraseTo 48 = .ok (.ireturn, 1) := by decide +kernel
theorem dX6_eraseTo_49 : decode cX6_eraseTo 49 = .ok (.iconst 0, 1) := by decide +kernel
theorem dX6_eraseTo_50 : decode cX6_eraseTo 50 = .ok (.ireturn, 1) := by decide +kernel
set_option maxRecDepth 20000 in
theorem ggX6_erase_X0_isReady : GoodIn wsX6_erase wsX0_isReady := goodIn_r _ [7, 8, 72, 73, 74, 75, 76, 77] (by decide +kernel) (by decide +kernel)
set_option maxRecDepth 20000 in
theorem gX6_erase_X0_isReady : GoodIn wsX6_erase (wsV RX6 343 RX0 yX0_isReady wsX0_isReady) := goodIn_app (goodIn_of _ (by decide +kernel)) ggX6_erase_X0_isReady
set_option maxRecDepth 20000 in
theorem ggX6_erase_X6_refuse : GoodIn wsX6_erase wsX6_refuse := goodIn_r _ [13, 14, 15, 16, 12, 17, 18, 55, 56, 57, 58, 59, 60, 61, 62, 63, 64, 65, 66, 67, 68, 69, 70, 71] (by decide +kernel) (by decide +kernel)
set_option maxRecDepth 20000 in
theorem gX6_erase_X6_refuse : GoodIn wsX6_erase (wsV RX6 126 RX6 yX6_refuse wsX6_refuse) := goodIn_app (goodIn_of _ (by decide +kernel)) ggX6_erase_X6_refuse
set_option maxRecDepth 20000 in
theorem ggX6_erase_X0_from : GoodIn wsX6_erase wsX0_from := goodIn_r _ [22, 23, 72, 73, 74, 75, 76, 77] (by decide +kernel) (by decide +kernel)
set_option maxRecDepth 20000 in
theorem gX6_erase_X0_from : GoodIn wsX6_erase (wsV RX6 346 RX0 yX0_from wsX0_from) := goodIn_app (goodIn_of _ (by decide +kernel)) ggX6_erase_X0_from
set_option maxRecDepth 20000 in
theorem ggX6_erase_X3_groupOf : GoodIn wsX6_erase wsX3_groupOf := goodIn_r _ [28, 29, 78, 79, 80, 81, 82, 83] (by decide +kernel) (by decide +kernel)
set_option maxRecDepth 20000 in
theorem gX6_erase_X3_groupOf : GoodIn wsX6_erase (wsV RX6 166 RX3 yX3_groupOf wsX3_groupOf) := goodIn_app (goodIn_of _ (by decide +kernel)) ggX6_erase_X3_groupOf
set_option maxRecDepth 20000 in
theorem ggX6_erase_X0_to : GoodIn wsX6_erase wsX0_to := goodIn_r _ [33, 34, 72, 73, 74, 75, 76, 77] (by decide +kernel) (by decide +kernel)
set_option maxRecDepth 20000 in
theorem gX6_erase_X0_to : GoodIn wsX6_erase (wsV RX6 349 RX0 yX0_to wsX0_to) := goodIn_app (goodIn_of _ (by decide +kernel)) ggX6_erase_X0_to
set_option maxRecDepth 20000 in
theorem ggX6_erase_X6_beginErasing : GoodIn wsX6_erase wsX6_beginErasing := goodIn_r _ [38, 1, 39, 40, 41, 42, 6, 43, 44, 45, 46, 47, 48, 49, 50, 8, 23, 34, 51, 52, 53, 54, 55, 56, 57, 58, 59, 60, 61, 62, 63, 64, 65, 66, 67, 68, 69, 70, 71, 72, 73, 74, 75, 76, 77] (by decide +kernel) (by decide +kernel)
set_option maxRecDepth 20000 in
theorem gX6_erase_X6_beginErasing : GoodIn wsX6_erase (wsV RX6 352 RX6 yX6_beginErasing wsX6_beginErasing) := goodIn_app (goodIn_of _ (by decide +kernel)) ggX6_erase_X6_beginErasing
theorem dX6_erase_0 : decode cX6_erase 0 = .ok (.aload_n 0, 1) := by decide +kernel
theorem dX6_erase_1 : decode cX6_erase 1 = .ok (.getfield 38, 3) := by decide +kernel
theorem dX6_erase_4 : decode cX6_erase 4 = .ok (.invokevirtual 343, 3) := by decide +kernel
theorem dX6_erase_7 : decode cX6_erase 7 = .ok (.ifCond .ne 10, 3) := by decide +kernel
theorem dX6_erase_10 : decode cX6_erase 10 = .ok (.aload_n 0, 1) := by decide +kernel
theorem dX6_erase_11 : decode cX6_erase 11 = .ok (.bipush 8, 2) := by decide +kernel
theorem dX6_erase_13 : decode cX6_erase 13 = .ok (.invokevirtual 126, 3) := by decide +kernel
theorem dX6_erase_16 : decode cX6_erase 16 = .ok (.ireturn, 1) := by decide +kernel
theorem dX6_erase_17 : decode cX6_erase 17 = .ok (.aload_n 0, 1) := by decide +kernel
theorem dX6_erase_18 : decode cX6_erase 18 = .ok (.aload_n 0, 1) := by decide +kernel
theorem dX6_erase_19 : decode cX6_erase 19 = .ok (.getfield 10, 3) := by decide +kernel
theorem dX6_erase_22 : decode cX6_erase 22 = .ok (.aload_n 0, 1) := by decide +kernel
theorem dX6_erase_23 : decode cX6_erase 23 = .ok (.getfield 38, 3) := by decide +kernel
theorem dX6_erase_26 : decode cX6_erase 26 = .ok (.invokevirtual 346, 3) := by decide +kernel
theorem dX6_erase_29 : decode cX6_erase 29 = .ok (.invokevirtual 166, 3) := by decide +kernel
theorem dX6_erase_32 : decode cX6_erase 32 = .ok (.aload_n 0, 1) := by decide +kernel
theorem dX6_erase_33 : decode cX6_erase 33 = .ok (.getfield 10, 3) := by decide +kernel
theorem dX6_erase_36 : decode cX6_erase 36 = .ok (.aload_n 0, 1) := by decide +kernel
theorem dX6_erase_37 : decode cX6_erase 37 = .ok (.getfield 38, 3) := by decide +kernel
theorem dX6_erase_40 : decode cX6_erase 40 = .ok (.invokevirtual 349, 3) := by decide +kernel
theorem dX6_erase_43 : decode cX6_erase 43 = .ok (.invokevirtual 166, 3) := by decide +kernel
theorem dX6_erase_46 : decode cX6_erase 46 = .ok (.invokevirtual 352, 3) := by decide +kernel
theorem dX6_erase_49 : decode cX6_erase 49 = .ok (.ireturn, 1) := by decide +kernel
set_option maxRecDepth 20000 in
theorem ggX6_beginErasing_X0_begin : GoodIn wsX6_beginErasing wsX0_begin := goodIn_r _ [7, 8, 9, 10, 11, 12, 13, 6, 14, 15, 16, 17, 39, 40, 41, 42, 43, 44] (by decide +kernel) (by decide +kernel)
set_option maxRecDepth 20000 in
theorem gX6_beginErasing_X0_begin : GoodIn wsX6_beginErasing (wsV RX6 355 RX0 yX0_begin wsX0_begin) := goodIn_app (goodIn_of _ (by decide +kernel)) ggX6_beginErasing_X0_begin
set_option maxRecDepth 20000 in
theorem ggX6_beginErasing_X0_groupsLeft : GoodIn wsX6_beginErasing wsX0_groupsLeft := goodIn_r _ [21, 9, 39, 40, 41, 42, 43, 44] (by decide +kernel) (by decide +kernel)
set_option maxRecDepth 20000 in
theorem gX6_beginErasing_X0_groupsLeft : GoodIn wsX6_beginErasing (wsV RX6 207 RX0 yX0_groupsLeft wsX0_groupsLeft) := goodIn_app (goodIn_of _ (by decide +kernel)) ggX6_beginErasing_X0_groupsLeft
theorem dX6_beginErasing_0 : decode cX6_beginErasing 0 = .ok (.aload_n 0, 1) := by decide +kernel
theorem dX6_beginErasing_1 : decode cX6_beginErasing 1 = .ok (.getfield 38, 3) := by decide +kernel
theorem dX6_beginErasing_4 : decode cX6_beginErasing 4 = .ok (.iload_n 1, 1) := by decide +kernel
theorem dX6_beginErasing_5 : decode cX6_beginErasing 5 = .ok (.iload_n 2, 1) := by decide +kernel
theorem dX6_beginErasing_6 : decode cX6_beginErasing 6 = .ok (.invokevirtual 355, 3) := by decide +kernel
theorem dX6_beginErasing_9 : decode cX6_beginErasing 9 = .ok (.aload_n 0, 1) := by decide +kernel
theorem dX6_beginErasing_10 : decode cX6_beginErasing 10 = .ok (.bipush 7, 2) := by decide +kernel
theorem dX6_beginErasing_12 : decode cX6_beginErasing 12 = .ok (.putfield 111, 3) := by decide +kernel
theorem dX6_beginErasing_15 : decode cX6_beginErasing 15 = .ok (.aload_n 0, 1) := by decide +kernel
theorem dX6_beginErasing_16 : decode cX6_beginErasing 16 = .ok (.getfield 38, 3) := by decide +kernel
theorem dX6_beginErasing_19 : decode cX6_beginErasing 19 = .ok (.invokevirtual 207, 3) := by decide +kernel
theorem dX6_beginErasing_22 : decode cX6_beginErasing 22 = .ok (.ireturn, 1) := by decide +kernel
set_option maxRecDepth 20000 in
theorem ggX6_changeLock_X6_unlock : GoodIn wsX6_changeLock wsX6_unlock := goodIn_r _ [5, 6, 7, 8, 9, 4, 10, 11, 12, 13, 14, 15, 16, 17, 18, 19, 20, 21, 22, 23, 24, 25, 26, 27, 28, 29, 30, 31, 32, 33, 34, 35, 36, 106, 107, 108, 109, 110, 111, 112, 113, 114, 115, 116, 117, 118, 119, 120, 121, 122, 123, 124] (by decide +kernel) (by decide +kernel)
set_option maxRecDepth 20000 in
theorem gX6_changeLock_X6_unlock : GoodIn wsX6_changeLock (wsV RX6 357 RX6 yX6_unlock wsX6_unlock) := goodIn_app (goodIn_of _ (by decide +kernel)) ggX6_changeLock_X6_unlock
set_option maxRecDepth 20000 in
theorem ggX6_changeLock_X6_setSecret : GoodIn wsX6_changeLock wsX6_setSecret := goodIn_r _ [40, 12, 11, 6, 13, 14, 15, 16, 17, 18, 41, 42, 4, 43, 19, 20, 21, 22, 23, 24, 25, 26, 27, 28, 29, 30, 31, 32, 33, 34, 35, 36, 44, 45, 46, 47, 48, 49, 50, 51, 52, 53, 54, 55, 106, 107, 108, 109, 110, 111, 112, 113, 114, 115, 116, 117, 118, 119, 120, 121, 122, 123, 124] (by decide +kernel) (by decide +kernel)
set_option maxRecDepth 20000 in
theorem gX6_changeLock_X6_setSecret : GoodIn wsX6_changeLock (wsV RX6 360 RX6 yX6_setSecret wsX6_setSecret) := goodIn_app (goodIn_of _ (by decide +kernel)) ggX6_changeLock_X6_setSecret
set_option maxRecDepth 20000 in
theorem ggX6_changeLock_X6_clearSecret : GoodIn wsX6_changeLock wsX6_clearSecret := goodIn_r _ [59, 6, 11, 7, 8, 9, 4, 10, 12, 13, 14, 15, 16, 17, 18, 19, 20, 21, 22, 23, 24, 25, 26, 27, 28, 29, 30, 31, 32, 33, 34, 35, 36, 60, 49, 50, 51, 106, 107, 108, 109, 110, 111, 112, 113, 114, 115, 116, 117, 118, 119, 120, 121, 122, 123, 124] (by decide +kernel) (by decide +kernel)
set_option maxRecDepth 20000 in
theorem gX6_changeLock_X6_clearSecret : GoodIn wsX6_changeLock (wsV RX6 363 RX6 yX6_clearSecret wsX6_clearSecret) := goodIn_app (goodIn_of _ (by decide +kernel)) ggX6_changeLock_X6_clearSecret
set_option maxRecDepth 20000 in
theorem ggX6_changeLock_X6_lock : GoodIn wsX6_changeLock wsX6_lock := goodIn_r _ [64, 6, 7, 8, 9, 4, 10, 11, 12, 13, 14, 15, 16, 17, 18, 19, 20, 21, 22, 23, 24, 25, 26, 27, 28, 29, 30, 31, 32, 33, 34, 35, 36, 106, 107, 108, 109, 110, 111, 112, 113, 114, 115, 116, 117, 118, 119, 120, 121, 122, 123, 124] (by decide +kernel) (by decide +kernel)
set_option maxRecDepth 20000 in
theorem gX6_changeLock_X6_lock : GoodIn wsX6_changeLock (wsV RX6 366 RX6 yX6_lock wsX6_lock) := goodIn_app (goodIn_of _ (by decide +kernel)) ggX6_changeLock_X6_lock
set_option maxRecDepth 20000 in
theorem ggX6_changeLock_X6_force : GoodIn wsX6_changeLock wsX6_force := goodIn_r _ [68, 6, 11, 69, 28, 29, 30, 4, 31, 32, 33, 34, 35, 36, 60, 49, 50, 16, 51, 18, 70, 71, 72, 73, 74, 75, 76, 77, 78, 79, 80, 81, 82, 83, 84, 85, 86, 87, 88, 89, 90, 91, 92, 93, 94, 95, 96, 97, 98, 99, 100, 101, 102, 103, 104, 105, 106, 107, 108, 109, 110, 111, 112, 113, 114, 115, 116, 117, 118, 119, 120, 121, 122, 123, 124, 125, 126, 127, 128, 129, 130, 131, 132, 133, 134, 135, 136] (by decide +kernel) (by decide +kernel)
set_option maxRecDepth 20000 in
theorem gX6_changeLock_X6_force : GoodIn wsX6_changeLock (wsV RX6 369 RX6 yX6_force wsX6_force) := goodIn_app (goodIn_of _ (by decide +kernel)) ggX6_changeLock_X6_force
set_option maxRecDepth 20000 in
theorem ggX6_changeLock_X6_refuse : GoodIn wsX6_changeLock wsX6_refuse := goodIn_r _ [31, 32, 33, 34, 4, 35, 36, 106, 107, 108, 109, 110, 111, 112, 113, 114, 115, 116, 117, 118, 119, 120, 121, 122] (by decide +kernel) (by decide +kernel)
set_option maxRecDepth 20000 in
theorem gX6_changeLock_X6_refuse : GoodIn wsX6_changeLock (wsV RX6 126 RX6 yX6_refuse wsX6_refuse) := goodIn_app (goodIn_of _ (by decide +kernel)) ggX6_changeLock_X6_refuse
theorem dX6_changeLock_0 : decode cX6_changeLock 0 = .ok (.iload_n 1, 1) := by decide +kernel
theorem dX6_changeLock_1 : decode cX6_changeLock 1 = .ok (.tableswitch 83 0 8 #[51, 56, 62, 83, 67, 72, 83, 83, 78], 51) := by decide +kernel
theorem dX6_changeLock_52 : decode cX6_changeLock 52 = .ok (.aload_n 0, 1) := by decide +kernel
theorem dX6_changeLock_53 : decode cX6_changeLock 53 = .ok (.invokevirtual 357, 3) := by decide +kernel
theorem dX6_changeLock_56 : decode cX6_changeLock 56 = .ok (.ireturn, 1) := by decide +kernel
theorem dX6_changeLock_57 : decode cX6_changeLock 57 = .ok (.aload_n 0, 1) := by decide +kernel
theorem dX6_changeLock_58 : decode cX6_changeLock 58 = .ok (.iconst 0, 1) := by decide +kernel
theorem dX6_changeLock_59 : decode cX6_changeLock 59 = .ok (.invokevirtual 360, 3) := by decide +kernel
theorem dX6_changeLock_62 : decode cX6_changeLock 62 = .ok (.ireturn, 1) := by decide +kernel
theorem dX6_changeLock_63 : decode cX6_changeLock 63 = .ok (.aload_n 0, 1) := by decide +kernel
theorem dX6_changeLock_64 : decode cX6_changeLock 64 = .ok (.invokevirtual 363, 3) := by decide +kernel
theorem dX6_changeLock_67 : decode cX6_changeLock 67 = .ok (.ireturn, 1) := by decide +kernel
theorem dX6_changeLock_68 : decode cX6_changeLock 68 = .ok (.aload_n 0, 1) := by decide +kernel
theorem dX6_changeLock_69 : decode cX6_changeLock 69 = .ok (.invokevirtual 366, 3) := by decide +kernel
theorem dX6_changeLock_72 : decode cX6_changeLock 72 = .ok (.ireturn, 1) := by decide +kernel
theorem dX6_changeLock_73 : decode cX6_changeLock 73 = .ok (.aload_n 0, 1) := by decide +kernel
theorem dX6_changeLock_74 : decode cX6_changeLock 74 = .ok (.iconst 1, 1) := by decide +kernel
theorem dX6_changeLock_75 : decode cX6_changeLock 75 = .ok (.invokevirtual 360, 3) := by decide +kernel
theorem dX6_changeLock_78 : decode cX6_changeLock 78 = .ok (.ireturn, 1) := by decide +kernel
theorem dX6_changeLock_79 : decode cX6_changeLock 79 = .ok (.aload_n 0, 1) := by decide +kernel
theorem dX6_changeLock_80 : decode cX6_changeLock 80 = .ok (.invokevirtual 369, 3) := by decide +kernel
theorem dX6_changeLock_83 : decode cX6_changeLock 83 = .ok (.ireturn, 1) := by decide +kernel
theorem dX6_changeLock_84 : decode cX6_changeLock 84 = .ok (.aload_n 0, 1) := by decide +kernel
theorem dX6_changeLock_85 : decode cX6_changeLock 85 = .ok (.bipush 16, 2) := by decide +kernel
theorem dX6_changeLock_87 : decode cX6_changeLock 87 = .ok (.invokevirtual 126, 3) := by decide +kernel
theorem dX6_changeLock_90 : decode cX6_changeLock 90 = .ok (.ireturn, 1) := by decide +kernel
set_option maxRecDepth 20000 in
theorem ggX6_textIsSecret_X1_length : GoodIn wsX6_textIsSecret wsX1_length := goodIn_r _ [7, 8, 35, 36] (by decide +kernel) (by decide +kernel)
set_option maxRecDepth 20000 in
theorem gX6_textIsSecret_X1_length : GoodIn wsX6_textIsSecret (wsV RX6 86 RX1 yX1_length wsX1_length) := goodIn_app (goodIn_of _ (by decide +kernel)) ggX6_textIsSecret_X1_length
set_option maxRecDepth 20000 in
theorem ggX6_textIsSecret_X1_startsWith : GoodIn wsX6_textIsSecret wsX1_startsWith := goodIn_r _ [12, 8, 13, 14, 15, 6, 16, 17, 35, 36] (by decide +kernel) (by decide +kernel)
set_option maxRecDepth 20000 in
theorem gX6_textIsSecret_X1_startsWith : GoodIn wsX6_textIsSecret (wsV RX6 372 RX1 yX1_startsWith wsX1_startsWith) := goodIn_app (goodIn_of _ (by decide +kernel)) ggX6_textIsSecret_X1_startsWith
theorem dX6_textIsSecret_0 : decode cX6_textIsSecret 0 = .ok (.aload_n 0, 1) := by decide +kernel
theorem dX6_textIsSecret_1 : decode cX6_textIsSecret 1 = .ok (.getfield 25, 3) := by decide +kernel
theorem dX6_textIsSecret_4 : decode cX6_textIsSecret 4 = .ok (.invokevirtual 86, 3) := by decide +kernel
theorem dX6_textIsSecret_7 : decode cX6_textIsSecret 7 = .ok (.ifCond .le 38, 3) := by decide +kernel
theorem dX6_textIsSecret_10 : decode cX6_textIsSecret 10 = .ok (.aload_n 0, 1) := by decide +kernel
theorem dX6_textIsSecret_11 : decode cX6_textIsSecret 11 = .ok (.getfield 21, 3) := by decide +kernel
theorem dX6_textIsSecret_14 : decode cX6_textIsSecret 14 = .ok (.invokevirtual 86, 3) := by decide +kernel
theorem dX6_textIsSecret_17 : decode cX6_textIsSecret 17 = .ok (.aload_n 0, 1) := by decide +kernel
theorem dX6_textIsSecret_18 : decode cX6_textIsSecret 18 = .ok (.getfield 25, 3) := by decide +kernel
theorem dX6_textIsSecret_21 : decode cX6_textIsSecret 21 = .ok (.invokevirtual 86, 3) := by decide +kernel
theorem dX6_textIsSecret_24 : decode cX6_textIsSecret 24 = .ok (.if_icmp .ne 21, 3) := by decide +kernel
theorem dX6_textIsSecret_27 : decode cX6_textIsSecret 27 = .ok (.aload_n 0, 1) := by decide +kernel
theorem dX6_textIsSecret_28 : decode cX6_textIsSecret 28 = .ok (.getfield 21, 3) := by decide +kernel
theorem dX6_textIsSecret_31 : decode cX6_textIsSecret 31 = .ok (.aload_n 0, 1) := by decide +kernel
theorem dX6_textIsSecret_32 : decode cX6_textIsSecret 32 = .ok (.getfield 25, 3) := by decide +kernel
theorem dX6_textIsSecret_35 : decode cX6_textIsSecret 35 = .ok (.invokevirtual 372, 3) := by decide +kernel
theorem dX6_textIsSecret_38 : decode cX6_textIsSecret 38 = .ok (.ifCond .eq 7, 3) := by decide +kernel
theorem dX6_textIsSecret_41 : decode cX6_textIsSecret 41 = .ok (.iconst 1, 1) := by decide +kernel
theorem dX6_textIsSecret_42 : decode cX6_textIsSecret 42 = .ok (.goto 4, 3) := by decide +kernel
theorem dX6_textIsSecret_45 : decode cX6_textIsSecret 45 = .ok (.iconst 0, 1) := by decide +kernel
theorem dX6_textIsSecret_46 : decode cX6_textIsSecret 46 = .ok (.ireturn, 1) := by decide +kernel
set_option maxRecDepth 20000 in
theorem ggX6_unlock_X6_textIsSecret : GoodIn wsX6_unlock wsX6_textIsSecret := goodIn_r _ [6, 7, 8, 9, 10, 11, 12, 13, 14, 15, 16, 17, 18, 19, 20, 21, 22, 23, 33, 34, 35, 36, 37, 38, 39, 40, 41, 42, 43, 44, 45, 46, 47, 48, 49, 50, 51] (by decide +kernel) (by decide +kernel)
set_option maxRecDepth 20000 in
theorem gX6_unlock_X6_textIsSecret : GoodIn wsX6_unlock (wsV RX6 376 RX6 yX6_textIsSecret wsX6_textIsSecret) := goodIn_app (goodIn_of _ (by decide +kernel)) ggX6_unlock_X6_textIsSecret
set_option maxRecDepth 20000 in
theorem ggX6_unlock_X6_refuse : GoodIn wsX6_unlock wsX6_refuse := goodIn_r _ [27, 28, 29, 30, 5, 31, 32, 33, 34, 35, 36, 37, 38, 39, 40, 41, 42, 43, 44, 45, 46, 47, 48, 49] (by decide +kernel) (by decide +kernel)
set_option maxRecDepth 20000 in
theorem gX6_unlock_X6_refuse : GoodIn wsX6_unlock (wsV RX6 126 RX6 yX6_refuse wsX6_refuse) := goodIn_app (goodIn_of _ (by decide +kernel)) ggX6_unlock_X6_refuse
theorem dX6_unlock_0 : decode cX6_unlock 0 = .ok (.aload_n 0, 1) := by decide +kernel
theorem dX6_unlock_1 : decode cX6_unlock 1 = .ok (.getfield 197, 3) := by decide +kernel
theorem dX6_unlock_4 : decode cX6_unlock 4 = .ok (.ifCond .eq 10, 3) := by decide +kernel
theorem dX6_unlock_7 : decode cX6_unlock 7 = .ok (.aload_n 0, 1) := by decide +kernel
theorem dX6_unlock_8 : decode cX6_unlock 8 = .ok (.invokevirtual 376, 3) := by decide +kernel
theorem dX6_unlock_11 : decode cX6_unlock 11 = .ok (.ifCond .ne 10, 3) := by decide +kernel
theorem dX6_unlock_14 : decode cX6_unlock 14 = .ok (.aload_n 0, 1) := by decide +kernel
theorem dX6_unlock_15 : decode cX6_unlock 15 = .ok (.bipush 16, 2) := by decide +kernel
theorem dX6_unlock_17 : decode cX6_unlock 17 = .ok (.invokevirtual 126, 3) := by decide +kernel
theorem dX6_unlock_20 : decode cX6_unlock 20 = .ok (.ireturn, 1) := by decide +kernel
theorem dX6_unlock_21 : decode cX6_unlock 21 = .ok (.aload_n 0, 1) := by decide +kernel
theorem dX6_unlock_22 : decode cX6_unlock 22 = .ok (.iconst 0, 1) := by decide +kernel
theorem dX6_unlock_23 : decode cX6_unlock 23 = .ok (.putfield 197, 3) := by decide +kernel
theorem dX6_unlock_26 : decode cX6_unlock 26 = .ok (.iconst 1, 1) := by decide +kernel
theorem dX6_unlock_27 : decode cX6_unlock 27 = .ok (.ireturn, 1) := by decide +kernel
set_option maxRecDepth 20000 in
theorem ggX6_setSecret_X1_length : GoodIn wsX6_setSecret wsX1_length := goodIn_r _ [8, 9, 61, 62] (by decide +kernel) (by decide +kernel)
set_option maxRecDepth 20000 in
theorem gX6_setSecret_X1_length : GoodIn wsX6_setSecret (wsV RX6 86 RX1 yX1_length wsX1_length) := goodIn_app (goodIn_of _ (by decide +kernel)) ggX6_setSecret_X1_length
set_option maxRecDepth 20000 in
theorem ggX6_setSecret_X6_isOutside : GoodIn wsX6_setSecret wsX6_isOutside := goodIn_r _ [13] (by decide +kernel) (by decide +kernel)
set_option maxRecDepth 20000 in
theorem gX6_setSecret_X6_isOutside : GoodIn wsX6_setSecret (va_wsS RX6 60 yX6_isOutside wsX6_isOutside) := goodIn_app (goodIn_of _ (by decide +kernel)) ggX6_setSecret_X6_isOutside
set_option maxRecDepth 20000 in
theorem ggX6_setSecret_X1_startsWith : GoodIn wsX6_setSecret wsX1_startsWith := goodIn_r _ [17, 9, 18, 19, 20, 7, 21, 22, 61, 62] (by decide +kernel) (by decide +kernel)
set_option maxRecDepth 20000 in
theorem gX6_setSecret_X1_startsWith : GoodIn wsX6_setSecret (wsV RX6 372 RX1 yX1_startsWith wsX1_startsWith) := goodIn_app (goodIn_of _ (by decide +kernel)) ggX6_setSecret_X1_startsWith
set_option maxRecDepth 20000 in
theorem ggX6_setSecret_X6_refuse : GoodIn wsX6_setSecret wsX6_refuse := goodIn_r _ [26, 27, 28, 29, 12, 30, 31, 44, 45, 46, 47, 48, 49, 50, 51, 52, 53, 54, 55, 56, 57, 58, 59, 60] (by decide +kernel) (by decide +kernel)
set_option maxRecDepth 20000 in
theorem gX6_setSecret_X6_refuse : GoodIn wsX6_setSecret (wsV RX6 126 RX6 yX6_refuse wsX6_refuse) := goodIn_app (goodIn_of _ (by decide +kernel)) ggX6_setSecret_X6_refuse
set_option maxRecDepth 20000 in
theorem ggX6_setSecret_X1_becomeTail : GoodIn wsX6_setSecret wsX1_becomeTail := goodIn_r _ [35, 9, 36, 37, 38, 7, 39, 18, 19, 20, 21, 22, 40, 41, 42, 43, 61, 62] (by decide +kernel) (by decide +kernel)
set_option maxRecDepth 20000 in
theorem gX6_setSecret_X1_becomeTail : GoodIn wsX6_setSecret (wsV RX6 379 RX1 yX1_becomeTail wsX1_becomeTail) := goodIn_app (goodIn_of _ (by decide +kernel)) ggX6_setSecret_X1_becomeTail
theorem dX6_setSecret_0 : decode cX6_setSecret 0 = .ok (.aload_n 0, 1) := by decide +kernel
theorem dX6_setSecret_1 : decode cX6_setSecret 1 = .ok (.getfield 21, 3) := by decide +kernel
theorem dX6_setSecret_4 : decode cX6_setSecret 4 = .ok (.invokevirtual 86, 3) := by decide +kernel
theorem dX6_setSecret_7 : decode cX6_setSecret 7 = .ok (.aload_n 0, 1) := by decide +kernel
theorem dX6_setSecret_8 : decode cX6_setSecret 8 = .ok (.getfield 25, 3) := by decide +kernel
theorem dX6_setSecret_11 : decode cX6_setSecret 11 = .ok (.invokevirtual 86, 3) := by decide +kernel
theorem dX6_setSecret_14 : decode cX6_setSecret 14 = .ok (.isub, 1) := by decide +kernel
theorem dX6_setSecret_15 : decode cX6_setSecret 15 = .ok (.istore_n 2, 1) := by decide +kernel
theorem dX6_setSecret_16 : decode cX6_setSecret 16 = .ok (.aload_n 0, 1) := by decide +kernel
theorem dX6_setSecret_17 : decode cX6_setSecret 17 = .ok (.getfield 197, 3) := by decide +kernel
theorem dX6_setSecret_20 : decode cX6_setSecret 20 = .ok (.ifCond .ne 27, 3) := by decide +kernel
theorem dX6_setSecret_23 : decode cX6_setSecret 23 = .ok (.iload_n 2, 1) := by decide +kernel
theorem dX6_setSecret_24 : decode cX6_setSecret 24 = .ok (.iconst 1, 1) := by decide +kernel
theorem dX6_setSecret_25 : decode cX6_setSecret 25 = .ok (.bipush 8, 2) := by decide +kernel
theorem dX6_setSecret_27 : decode cX6_setSecret 27 = .ok (.invokestatic 60, 3) := by decide +kernel
theorem dX6_setSecret_30 : decode cX6_setSecret 30 = .ok (.ifCond .ne 17, 3) := by decide +kernel
theorem dX6_setSecret_33 : decode cX6_setSecret 33 = .ok (.aload_n 0, 1) := by decide +kernel
theorem dX6_setSecret_34 : decode cX6_setSecret 34 = .ok (.getfield 21, 3) := by decide +kernel
theorem dX6_setSecret_37 : decode cX6_setSecret 37 = .ok (.aload_n 0, 1) := by decide +kernel
theorem dX6_setSecret_38 : decode cX6_setSecret 38 = .ok (.getfield 25, 3) := by decide +kernel
theorem dX6_setSecret_41 : decode cX6_setSecret 41 = .ok (.invokevirtual 372, 3) := by decide +kernel
theorem dX6_setSecret_44 : decode cX6_setSecret 44 = .ok (.ifCond .ne 10, 3) := by decide +kernel
theorem dX6_setSecret_47 : decode cX6_setSecret 47 = .ok (.aload_n 0, 1) := by decide +kernel
theorem dX6_setSecret_48 : decode cX6_setSecret 48 = .ok (.bipush 16, 2) := by decide +kernel
theorem dX6_setSecret_50 : decode cX6_setSecret 50 = .ok (.invokevirtual 126, 3) := by decide +kernel
theorem dX6_setSecret_53 : decode cX6_setSecret 53 = .ok (.ireturn, 1) := by decide +kernel
theorem dX6_setSecret_54 : decode cX6_setSecret 54 = .ok (.aload_n 0, 1) := by decide +kernel
theorem dX6_setSecret_55 : decode cX6_setSecret 55 = .ok (.getfield 25, 3) := by decide +kernel
theorem dX6_setSecret_58 : decode cX6_setSecret 58 = .ok (.aload_n 0, 1) := by decide +kernel
theorem dX6_setSecret_59 : decode cX6_setSecret 59 = .ok (.getfield 21, 3) := by decide +kernel
theorem dX6_setSecret_62 : decode cX6_setSecret 62 = .ok (.aload_n 0, 1) := by decide +kernel
theorem dX6_setSecret_63 : decode cX6_setSecret 63 = .ok (.getfield 25, 3) := by decide +kernel
theorem dX6_setSecret_66 : decode cX6_setSecret 66 = .ok (.invokevirtual 86, 3) := by decide +kernel
theorem dX6_setSecret_69 : decode cX6_setSecret 69 = .ok (.invokevirtual 379, 3) := by decide +kernel
theorem dX6_setSecret_72 : decode cX6_setSecret 72 = .ok (.aload_n 0, 1) := by decide +kernel
theorem dX6_setSecret_73 : decode cX6_setSecret 73 = .ok (.iload_n 1, 1) := by decide +kernel
theorem dX6_setSecret_74 : decode cX6_setSecret 74 = .ok (.putfield 197, 3) := by decide +kernel
theorem dX6_setSecret_77 : decode cX6_setSecret 77 = .ok (.iconst 1, 1) := by decide +kernel
theorem dX6_setSecret_78 : decode cX6_setSecret 78 = .ok (.ireturn, 1) := by decide +kernel
set_option maxRecDepth 20000 in
theorem ggX6_clearSecret_X6_textIsSecret : GoodIn wsX6_clearSecret wsX6_textIsSecret := goodIn_r _ [7, 2, 8, 9, 10, 11, 12, 13, 14, 15, 16, 17, 18, 19, 20, 21, 22, 23, 37, 38, 39, 40, 41, 42, 43, 44, 45, 46, 47, 48, 49, 50, 51, 52, 53, 54, 55] (by decide +kernel) (by decide +kernel)
set_option maxRecDepth 20000 in
theorem gX6_clearSecret_X6_textIsSecret : GoodIn wsX6_clearSecret (wsV RX6 376 RX6 yX6_textIsSecret wsX6_textIsSecret) := goodIn_app (goodIn_of _ (by decide +kernel)) ggX6_clearSecret_X6_textIsSecret
set_option maxRecDepth 20000 in
theorem ggX6_clearSecret_X6_refuse : GoodIn wsX6_clearSecret wsX6_refuse := goodIn_r _ [27, 28, 29, 30, 6, 31, 32, 37, 38, 39, 40, 41, 42, 43, 44, 45, 46, 47, 48, 49, 50, 51, 52, 53] (by decide +kernel) (by decide +kernel)
set_option maxRecDepth 20000 in
theorem gX6_clearSecret_X6_refuse : GoodIn wsX6_clearSecret (wsV RX6 126 RX6 yX6_refuse wsX6_refuse) := goodIn_app (goodIn_of _ (by decide +kernel)) ggX6_clearSecret_X6_refuse
set_option maxRecDepth 20000 in
theorem ggX6_clearSecret_X1_empty : GoodIn wsX6_clearSecret wsX1_empty := goodIn_r _ [36, 14, 54, 55] (by decide +kernel) (by decide +kernel)
set_option maxRecDepth 20000 in
theorem gX6_clearSecret_X1_empty : GoodIn wsX6_clearSecret (wsV RX6 90 RX1 yX1_empty wsX1_empty) := goodIn_app (goodIn_of _ (by decide +kernel)) ggX6_clearSecret_X1_empty
theorem dX6_clearSecret_0 : decode cX6_clearSecret 0 = .ok (.aload_n 0, 1) := by decide +kernel
theorem dX6_clearSecret_1 : decode cX6_clearSecret 1 = .ok (.getfield 197, 3) := by decide +kernel
theorem dX6_clearSecret_4 : decode cX6_clearSecret 4 = .ok (.ifCond .ne 10, 3) := by decide +kernel
theorem dX6_clearSecret_7 : decode cX6_clearSecret 7 = .ok (.aload_n 0, 1) := by decide +kernel
theorem dX6_clearSecret_8 : decode cX6_clearSecret 8 = .ok (.invokevirtual 376, 3) := by decide +kernel
theorem dX6_clearSecret_11 : decode cX6_clearSecret 11 = .ok (.ifCond .ne 10, 3) := by decide +kernel
theorem dX6_clearSecret_14 : decode cX6_clearSecret 14 = .ok (.aload_n 0, 1) := by decide +kernel
theorem dX6_clearSecret_15 : decode cX6_clearSecret 15 = .ok (.bipush 16, 2) := by decide +kernel
theorem dX6_clearSecret_17 : decode cX6_clearSecret 17 = .ok (.invokevirtual 126, 3) := by decide +kernel
theorem dX6_clearSecret_20 : decode cX6_clearSecret 20 = .ok (.ireturn, 1) := by decide +kernel
theorem dX6_clearSecret_21 : decode cX6_clearSecret 21 = .ok (.aload_n 0, 1) := by decide +kernel
theorem dX6_clearSecret_22 : decode cX6_clearSecret 22 = .ok (.getfield 25, 3) := by decide +kernel
theorem dX6_clearSecret_25 : decode cX6_clearSecret 25 = .ok (.invokevirtual 90, 3) := by decide +kernel
theorem dX6_clearSecret_28 : decode cX6_clearSecret 28 = .ok (.iconst 1, 1) := by decide +kernel
theorem dX6_clearSecret_29 : decode cX6_clearSecret 29 = .ok (.ireturn, 1) := by decide +kernel
set_option maxRecDepth 20000 in
theorem ggX6_lock_X6_textIsSecret : GoodIn wsX6_lock wsX6_textIsSecret := goodIn_r _ [6, 7, 8, 9, 10, 11, 12, 13, 14, 15, 16, 17, 18, 19, 20, 21, 22, 23, 33, 34, 35, 36, 37, 38, 39, 40, 41, 42, 43, 44, 45, 46, 47, 48, 49, 50, 51] (by decide +kernel) (by decide +kernel)
set_option maxRecDepth 20000 in
theorem gX6_lock_X6_textIsSecret : GoodIn wsX6_lock (wsV RX6 376 RX6 yX6_textIsSecret wsX6_textIsSecret) := goodIn_app (goodIn_of _ (by decide +kernel)) ggX6_lock_X6_textIsSecret
set_option maxRecDepth 20000 in
theorem ggX6_lock_X6_refuse : GoodIn wsX6_lock wsX6_refuse := goodIn_r _ [27, 28, 29, 30, 5, 31, 32, 33, 34, 35, 36, 37, 38, 39, 40, 41, 42, 43, 44, 45, 46, 47, 48, 49] (by decide +kernel) (by decide +kernel)
set_option maxRecDepth 20000 in
theorem gX6_lock_X6_refuse : GoodIn wsX6_lock (wsV RX6 126 RX6 yX6_refuse wsX6_refuse) := goodIn_app (goodIn_of _ (by decide +kernel)) ggX6_lock_X6_refuse
theorem dX6_lock_0 : decode cX6_lock 0 = .ok (.aload_n 0, 1) := by decide +kernel
theorem dX6_lock_1 : decode cX6_lock 1 = .ok (.getfield 197, 3) := by decide +kernel
theorem dX6_lock_4 : decode cX6_lock 4 = .ok (.ifCond .ne 10, 3) := by decide +kernel
theorem dX6_lock_7 : decode cX6_lock 7 = .ok (.aload_n 0, 1) := by decide +kernel
theorem dX6_lock_8 : decode cX6_lock 8 = .ok (.invokevirtual 376, 3) := by decide +kernel
theorem dX6_lock_11 : decode cX6_lock 11 = .ok (.ifCond .ne 10, 3) := by decide +kernel
theorem dX6_lock_14 : decode cX6_lock 14 = .ok (.aload_n 0, 1) := by decide +kernel
theorem dX6_lock_15 : decode cX6_lock 15 = .ok (.bipush 16, 2) := by decide +kernel
theorem dX6_lock_17 : decode cX6_lock 17 = .ok (.invokevirtual 126, 3) := by decide +kernel
theorem dX6_lock_20 : decode cX6_lock 20 = .ok (.ireturn, 1) := by decide +kernel
theorem dX6_lock_21 : decode cX6_lock 21 = .ok (.aload_n 0, 1) := by decide +kernel
theorem dX6_lock_22 : decode cX6_lock 22 = .ok (.iconst 1, 1) := by decide +kernel
theorem dX6_lock_23 : decode cX6_lock 23 = .ok (.putfield 197, 3) := by decide +kernel
theorem dX6_lock_26 : decode cX6_lock 26 = .ok (.iconst 1, 1) := by decide +kernel
theorem dX6_lock_27 : decode cX6_lock 27 = .ok (.ireturn, 1) := by decide +kernel
set_option maxRecDepth 20000 in
theorem ggX6_force_X6_refuse : GoodIn wsX6_force wsX6_refuse := goodIn_r _ [8, 9, 10, 11, 7, 12, 13, 56, 57, 58, 59, 60, 61, 62, 63, 64, 65, 66, 67, 68, 69, 70, 71, 72] (by decide +kernel) (by decide +kernel)
set_option maxRecDepth 20000 in
theorem gX6_force_X6_refuse : GoodIn wsX6_force (wsV RX6 126 RX6 yX6_refuse wsX6_refuse) := goodIn_app (goodIn_of _ (by decide +kernel)) ggX6_force_X6_refuse
set_option maxRecDepth 20000 in
theorem ggX6_force_X1_empty : GoodIn wsX6_force wsX1_empty := goodIn_r _ [18, 19, 73, 74] (by decide +kernel) (by decide +kernel)
set_option maxRecDepth 20000 in
theorem gX6_force_X1_empty : GoodIn wsX6_force (wsV RX6 90 RX1 yX1_empty wsX1_empty) := goodIn_app (goodIn_of _ (by decide +kernel)) ggX6_force_X1_empty
set_option maxRecDepth 20000 in
theorem ggX6_force_X3_size : GoodIn wsX6_force wsX3_size := goodIn_r _ [24, 25, 75, 76, 77, 78, 79, 80] (by decide +kernel) (by decide +kernel)
set_option maxRecDepth 20000 in
theorem gX6_force_X3_size : GoodIn wsX6_force (wsV RX6 181 RX3 yX3_size wsX3_size) := goodIn_app (goodIn_of _ (by decide +kernel)) ggX6_force_X3_size
set_option maxRecDepth 20000 in
theorem ggX6_force_X3_groupOf : GoodIn wsX6_force wsX3_groupOf := goodIn_r _ [29, 30, 75, 76, 77, 78, 79, 80] (by decide +kernel) (by decide +kernel)
set_option maxRecDepth 20000 in
theorem gX6_force_X3_groupOf : GoodIn wsX6_force (wsV RX6 166 RX3 yX3_groupOf wsX3_groupOf) := goodIn_app (goodIn_of _ (by decide +kernel)) ggX6_force_X3_groupOf
set_option maxRecDepth 20000 in
theorem ggX6_force_X6_beginErasing : GoodIn wsX6_force wsX6_beginErasing := goodIn_r _ [34, 35, 36, 37, 38, 39, 40, 41, 42, 43, 44, 45, 46, 47, 48, 49, 50, 51, 52, 53, 54, 55, 56, 57, 58, 59, 60, 61, 62, 63, 64, 65, 66, 67, 68, 69, 70, 71, 72, 81, 82, 83, 84, 85, 86] (by decide +kernel) (by decide +kernel)
set_option maxRecDepth 20000 in
theorem gX6_force_X6_beginErasing : GoodIn wsX6_force (wsV RX6 352 RX6 yX6_beginErasing wsX6_beginErasing) := goodIn_app (goodIn_of _ (by decide +kernel)) ggX6_force_X6_beginErasing
theorem dX6_force_0 : decode cX6_force 0 = .ok (.aload_n 0, 1) := by decide +kernel
theorem dX6_force_1 : decode cX6_force 1 = .ok (.getfield 197, 3) := by decide +kernel
theorem dX6_force_4 : decode cX6_force 4 = .ok (.ifCond .ne 10, 3) := by decide +kernel
theorem dX6_force_7 : decode cX6_force 7 = .ok (.aload_n 0, 1) := by decide +kernel
theorem dX6_force_8 : decode cX6_force 8 = .ok (.bipush 16, 2) := by decide +kernel
theorem dX6_force_10 : decode cX6_force 10 = .ok (.invokevirtual 126, 3) := by decide +kernel
theorem dX6_force_13 : decode cX6_force 13 = .ok (.ireturn, 1) := by decide +kernel
theorem dX6_force_14 : decode cX6_force 14 = .ok (.aload_n 0, 1) := by decide +kernel
theorem dX6_force_15 : decode cX6_force 15 = .ok (.getfield 25, 3) := by decide +kernel
theorem dX6_force_18 : decode cX6_force 18 = .ok (.invokevirtual 90, 3) := by decide +kernel
theorem dX6_force_21 : decode cX6_force 21 = .ok (.aload_n 0, 1) := by decide +kernel
theorem dX6_force_22 : decode cX6_force 22 = .ok (.iconst 0, 1) := by decide +kernel
theorem dX6_force_23 : decode cX6_force 23 = .ok (.putfield 197, 3) := by decide +kernel
theorem dX6_force_26 : decode cX6_force 26 = .ok (.aload_n 0, 1) := by decide +kernel
theorem dX6_force_27 : decode cX6_force 27 = .ok (.iconst 0, 1) := by decide +kernel
theorem dX6_force_28 : decode cX6_force 28 = .ok (.aload_n 0, 1) := by decide +kernel
theorem dX6_force_29 : decode cX6_force 29 = .ok (.getfield 10, 3) := by decide +kernel
theorem dX6_force_32 : decode cX6_force 32 = .ok (.aload_n 0, 1) := by decide +kernel
theorem dX6_force_33 : decode cX6_force 33 = .ok (.getfield 10, 3) := by decide +kernel
theorem dX6_force_36 : decode cX6_force 36 = .ok (.invokevirtual 181, 3) := by decide +kernel
theorem dX6_force_39 : decode cX6_force 39 = .ok (.iconst 1, 1) := by decide +kernel
theorem dX6_force_40 : decode cX6_force 40 = .ok (.isub, 1) := by decide +kernel
theorem dX6_force_41 : decode cX6_force 41 = .ok (.invokevirtual 166, 3) := by decide +kernel
theorem dX6_force_44 : decode cX6_force 44 = .ok (.invokevirtual 352, 3) := by decide +kernel
theorem dX6_force_47 : decode cX6_force 47 = .ok (.ireturn, 1) := by decide +kernel
set_option maxRecDepth 20000 in
theorem ggX6_work_X4_size : GoodIn wsX6_work wsX4_size := goodIn_r _ [8, 9, 116, 117, 118, 119] (by decide +kernel) (by decide +kernel)
set_option maxRecDepth 20000 in
theorem gX6_work_X4_size : GoodIn wsX6_work (wsV RX6 175 RX4 yX4_size wsX4_size) := goodIn_app (goodIn_of _ (by decide +kernel)) ggX6_work_X4_size
set_option maxRecDepth 20000 in
theorem ggX6_work_X6_writeFurther : GoodIn wsX6_work wsX6_writeFurther := goodIn_r _ [14, 2, 15, 16, 17, 18, 19, 20, 7, 21, 22, 23, 24, 25, 26, 9, 27, 28, 29, 30, 31, 32, 33, 34, 35, 36, 37, 38, 39, 40, 41, 42, 43, 44, 45, 46, 47, 48, 49, 50, 51, 52, 53, 54, 55, 56, 57, 58, 59, 60, 61, 62, 63, 64, 99, 100, 101, 102, 103, 104, 105, 106, 107, 108, 109, 110, 111, 112, 113, 114, 115, 116, 117, 118, 119, 120, 121, 122, 123, 124, 125, 126, 127, 128] (by decide +kernel) (by decide +kernel)
set_option maxRecDepth 20000 in
theorem gX6_work_X6_writeFurther : GoodIn wsX6_work (wsV RX6 383 RX6 yX6_writeFurther wsX6_writeFurther) := goodIn_app (goodIn_of _ (by decide +kernel)) ggX6_work_X6_writeFurther
set_option maxRecDepth 20000 in
theorem ggX6_work_X0_groupsLeft : GoodIn wsX6_work wsX0_groupsLeft := goodIn_r _ [69, 70, 129, 130, 131, 132, 133, 134] (by decide +kernel) (by decide +kernel)
set_option maxRecDepth 20000 in
theorem gX6_work_X0_groupsLeft : GoodIn wsX6_work (wsV RX6 207 RX0 yX0_groupsLeft wsX0_groupsLeft) := goodIn_app (goodIn_of _ (by decide +kernel)) ggX6_work_X0_groupsLeft
set_option maxRecDepth 20000 in
theorem ggX6_work_X6_eraseFurther : GoodIn wsX6_work wsX6_eraseFurther := goodIn_r _ [74, 3, 16, 75, 76, 77, 68, 78, 79, 80, 81, 82, 83, 84, 70, 85, 86, 87, 38, 88, 89, 90, 91, 92, 93, 46, 94, 95, 63, 96, 97, 62, 64, 40, 98, 41, 47, 48, 49, 50, 51, 52, 99, 100, 101, 102, 103, 104, 105, 106, 107, 108, 109, 110, 111, 112, 113, 114, 115, 129, 130, 131, 132, 133, 134, 123, 124, 125, 126, 127, 128] (by decide +kernel) (by decide +kernel)
set_option maxRecDepth 20000 in
theorem gX6_work_X6_eraseFurther : GoodIn wsX6_work (wsV RX6 386 RX6 yX6_eraseFurther wsX6_eraseFurther) := goodIn_app (goodIn_of _ (by decide +kernel)) ggX6_work_X6_eraseFurther
theorem dX6_work_0 : decode cX6_work 0 = .ok (.aload_n 0, 1) := by decide +kernel
theorem dX6_work_1 : decode cX6_work 1 = .ok (.getfield 111, 3) := by decide +kernel
theorem dX6_work_4 : decode cX6_work 4 = .ok (.bipush 6, 2) := by decide +kernel
theorem dX6_work_6 : decode cX6_work 6 = .ok (.if_icmp .eq 13, 3) := by decide +kernel
theorem dX6_work_9 : decode cX6_work 9 = .ok (.aload_n 0, 1) := by decide +kernel
theorem dX6_work_10 : decode cX6_work 10 = .ok (.getfield 111, 3) := by decide +kernel
theorem dX6_work_13 : decode cX6_work 13 = .ok (.bipush 7, 2) := by decide +kernel
theorem dX6_work_15 : decode cX6_work 15 = .ok (.if_icmp .eq 4, 3) := by decide +kernel
theorem dX6_work_18 : decode cX6_work 18 = .ok (.return_, 1) := by decide +kernel
theorem dX6_work_19 : decode cX6_work 19 = .ok (.aload_n 0, 1) := by decide +kernel
theorem dX6_work_20 : decode cX6_work 20 = .ok (.getfield 31, 3) := by decide +kernel
theorem dX6_work_23 : decode cX6_work 23 = .ok (.invokevirtual 175, 3) := by decide +kernel
theorem dX6_work_26 : decode cX6_work 26 = .ok (.ifCond .le 10, 3) := by decide +kernel
theorem dX6_work_29 : decode cX6_work 29 = .ok (.aload_n 0, 1) := by decide +kernel
theorem dX6_work_30 : decode cX6_work 30 = .ok (.invokevirtual 383, 3) := by decide +kernel
theorem dX6_work_33 : decode cX6_work 33 = .ok (.goto 17, 3) := by decide +kernel
theorem dX6_work_36 : decode cX6_work 36 = .ok (.aload_n 0, 1) := by decide +kernel
theorem dX6_work_37 : decode cX6_work 37 = .ok (.getfield 38, 3) := by decide +kernel
theorem dX6_work_40 : decode cX6_work 40 = .ok (.invokevirtual 207, 3) := by decide +kernel
theorem dX6_work_43 : decode cX6_work 43 = .ok (.ifCond .le 7, 3) := by decide +kernel
theorem dX6_work_46 : decode cX6_work 46 = .ok (.aload_n 0, 1) := by decide +kernel
theorem dX6_work_47 : decode cX6_work 47 = .ok (.invokevirtual 386, 3) := by decide +kernel
theorem dX6_work_50 : decode cX6_work 50 = .ok (.aload_n 0, 1) := by decide +kernel
theorem dX6_work_51 : decode cX6_work 51 = .ok (.getfield 111, 3) := by decide +kernel
theorem dX6_work_54 : decode cX6_work 54 = .ok (.bipush 7, 2) := by decide +kernel
theorem dX6_work_56 : decode cX6_work 56 = .ok (.if_icmp .ne 28, 3) := by decide +kernel
theorem dX6_work_59 : decode cX6_work 59 = .ok (.aload_n 0, 1) := by decide +kernel
theorem dX6_work_60 : decode cX6_work 60 = .ok (.getfield 31, 3) := by decide +kernel
theorem dX6_work_63 : decode cX6_work 63 = .ok (.invokevirtual 175, 3) := by decide +kernel
theorem dX6_work_66 : decode cX6_work 66 = .ok (.ifCond .ne 18, 3) := by decide +kernel
theorem dX6_work_69 : decode cX6_work 69 = .ok (.aload_n 0, 1) := by decide +kernel
theorem dX6_work_70 : decode cX6_work 70 = .ok (.getfield 38, 3) := by decide +kernel
theorem dX6_work_73 : decode cX6_work 73 = .ok (.invokevirtual 207, 3) := by decide +kernel
theorem dX6_work_76 : decode cX6_work 76 = .ok (.ifCond .ne 8, 3) := by decide +kernel
theorem dX6_work_79 : decode cX6_work 79 = .ok (.aload_n 0, 1) := by decide +kernel
theorem dX6_work_80 : decode cX6_work 80 = .ok (.iconst 4, 1) := by decide +kernel
theorem dX6_work_81 : decode cX6_work 81 = .ok (.putfield 111, 3) := by decide +kernel
theorem dX6_work_84 : decode cX6_work 84 = .ok (.return_, 1) := by decide +kernel
set_option maxRecDepth 20000 in
theorem ggX6_writeFurther_X4_tickFirst : GoodIn wsX6_writeFurther wsX4_tickFirst := goodIn_r _ [9, 10, 71, 72, 73, 74] (by decide +kernel) (by decide +kernel)
set_option maxRecDepth 20000 in
theorem gX6_writeFurther_X4_tickFirst : GoodIn wsX6_writeFurther (wsV RX6 389 RX4 yX4_tickFirst wsX4_tickFirst) := goodIn_app (goodIn_of _ (by decide +kernel)) ggX6_writeFurther_X4_tickFirst
set_option maxRecDepth 20000 in
theorem ggX6_writeFurther_X4_tellOf : GoodIn wsX6_writeFurther wsX4_tellOf := goodIn_r _ [14, 15, 16, 17, 10, 71, 72, 73, 74] (by decide +kernel) (by decide +kernel)
set_option maxRecDepth 20000 in
theorem gX6_writeFurther_X4_tellOf : GoodIn wsX6_writeFurther (wsV RX6 178 RX4 yX4_tellOf wsX4_tellOf) := goodIn_app (goodIn_of _ (by decide +kernel)) ggX6_writeFurther_X4_tellOf
set_option maxRecDepth 20000 in
theorem ggX6_writeFurther_X2_ticksOfBlock : GoodIn wsX6_writeFurther wsX2_ticksOfBlock := goodIn_r _ [22, 23, 75, 76, 77] (by decide +kernel) (by decide +kernel)
set_option maxRecDepth 20000 in
theorem gX6_writeFurther_X2_ticksOfBlock : GoodIn wsX6_writeFurther (wsV RX6 392 RX2 yX2_ticksOfBlock wsX2_ticksOfBlock) := goodIn_app (goodIn_of _ (by decide +kernel)) ggX6_writeFurther_X2_ticksOfBlock
set_option maxRecDepth 20000 in
theorem ggX6_writeFurther_X3_put : GoodIn wsX6_writeFurther wsX3_put := goodIn_r _ [28, 29, 30, 31, 32, 33, 27, 34, 35, 36, 37, 38, 39, 40, 41, 42, 43, 44, 45, 78, 79, 80, 81, 82, 83] (by decide +kernel) (by decide +kernel)
set_option maxRecDepth 20000 in
theorem gX6_writeFurther_X3_put : GoodIn wsX6_writeFurther (wsV RX6 395 RX3 yX3_put wsX3_put) := goodIn_app (goodIn_of _ (by decide +kernel)) ggX6_writeFurther_X3_put
set_option maxRecDepth 20000 in
theorem ggX6_writeFurther_X4_dropFirst : GoodIn wsX6_writeFurther wsX4_dropFirst := goodIn_r _ [49, 15, 16, 17, 50, 51, 52, 53, 10, 71, 72, 73, 74] (by decide +kernel) (by decide +kernel)
set_option maxRecDepth 20000 in
theorem gX6_writeFurther_X4_dropFirst : GoodIn wsX6_writeFurther (wsV RX6 398 RX4 yX4_dropFirst wsX4_dropFirst) := goodIn_app (goodIn_of _ (by decide +kernel)) ggX6_writeFurther_X4_dropFirst
theorem dX6_writeFurther_0 : decode cX6_writeFurther 0 = .ok (.aload_n 0, 1) := by decide +kernel
theorem dX6_writeFurther_1 : decode cX6_writeFurther 1 = .ok (.getfield 31, 3) := by decide +kernel
theorem dX6_writeFurther_4 : decode cX6_writeFurther 4 = .ok (.invokevirtual 389, 3) := by decide +kernel
theorem dX6_writeFurther_7 : decode cX6_writeFurther 7 = .ok (.aload_n 0, 1) := by decide +kernel
theorem dX6_writeFurther_8 : decode cX6_writeFurther 8 = .ok (.getfield 31, 3) := by decide +kernel
theorem dX6_writeFurther_11 : decode cX6_writeFurther 11 = .ok (.iconst 0, 1) := by decide +kernel
theorem dX6_writeFurther_12 : decode cX6_writeFurther 12 = .ok (.iconst 2, 1) := by decide +kernel
theorem dX6_writeFurther_13 : decode cX6_writeFurther 13 = .ok (.invokevirtual 178, 3) := by decide +kernel
theorem dX6_writeFurther_16 : decode cX6_writeFurther 16 = .ok (.aload_n 0, 1) := by decide +kernel
theorem dX6_writeFurther_17 : decode cX6_writeFurther 17 = .ok (.getfield 52, 3) := by decide +kernel
theorem dX6_writeFurther_20 : decode cX6_writeFurther 20 = .ok (.invokevirtual 392, 3) := by decide +kernel
theorem dX6_writeFurther_23 : decode cX6_writeFurther 23 = .ok (.if_icmp .ge 4, 3) := by decide +kernel
theorem dX6_writeFurther_26 : decode cX6_writeFurther 26 = .ok (.return_, 1) := by decide +kernel
theorem dX6_writeFurther_27 : decode cX6_writeFurther 27 = .ok (.aload_n 0, 1) := by decide +kernel
theorem dX6_writeFurther_28 : decode cX6_writeFurther 28 = .ok (.getfield 10, 3) := by decide +kernel
theorem dX6_writeFurther_31 : decode cX6_writeFurther 31 = .ok (.aload_n 0, 1) := by decide +kernel
theorem dX6_writeFurther_32 : decode cX6_writeFurther 32 = .ok (.getfield 31, 3) := by decide +kernel
theorem dX6_writeFurther_35 : decode cX6_writeFurther 35 = .ok (.iconst 0, 1) := by decide +kernel
theorem dX6_writeFurther_36 : decode cX6_writeFurther 36 = .ok (.iconst 0, 1) := by decide +kernel
theorem dX6_writeFurther_37 : decode cX6_writeFurther 37 = .ok (.invokevirtual 178, 3) := by decide +kernel
theorem dX6_writeFurther_40 : decode cX6_writeFurther 40 = .ok (.aload_n 0, 1) := by decide +kernel
theorem dX6_writeFurther_41 : decode cX6_writeFurther 41 = .ok (.getfield 31, 3) := by decide +kernel
theorem dX6_writeFurther_44 : decode cX6_writeFurther 44 = .ok (.iconst 0, 1) := by decide +kernel
theorem dX6_writeFurther_45 : decode cX6_writeFurther 45 = .ok (.iconst 1, 1) := by decide +kernel
theorem dX6_writeFurther_46 : decode cX6_writeFurther 46 = .ok (.invokevirtual 178, 3) := by decide +kernel
theorem dX6_writeFurther_49 : decode cX6_writeFurther 49 = .ok (.invokevirtual 395, 3) := by decide +kernel
theorem dX6_writeFurther_52 : decode cX6_writeFurther 52 = .ok (.aload_n 0, 1) := by decide +kernel
theorem dX6_writeFurther_53 : decode cX6_writeFurther 53 = .ok (.dup, 1) := by decide +kernel
theorem dX6_writeFurther_54 : decode cX6_writeFurther 54 = .ok (.getfield 204, 3) := by decide +kernel
theorem dX6_writeFurther_57 : decode cX6_writeFurther 57 = .ok (.iconst 1, 1) := by decide +kernel
theorem dX6_writeFurther_58 : decode cX6_writeFurther 58 = .ok (.iadd, 1) := by decide +kernel
theorem dX6_writeFurther_59 : decode cX6_writeFurther 59 = .ok (.putfield 204, 3) := by decide +kernel
theorem dX6_writeFurther_62 : decode cX6_writeFurther 62 = .ok (.aload_n 0, 1) := by decide +kernel
theorem dX6_writeFurther_63 : decode cX6_writeFurther 63 = .ok (.getfield 31, 3) := by decide +kernel
theorem dX6_writeFurther_66 : decode cX6_writeFurther 66 = .ok (.invokevirtual 398, 3) := by decide +kernel
theorem dX6_writeFurther_69 : decode cX6_writeFurther 69 = .ok (.return_, 1) := by decide +kernel
set_option maxRecDepth 20000 in
theorem ggX6_eraseFurther_X0_group : GoodIn wsX6_eraseFurther wsX0_group := goodIn_r _ [7, 8, 59, 60, 61, 62, 63, 64] (by decide +kernel) (by decide +kernel)
set_option maxRecDepth 20000 in
theorem gX6_eraseFurther_X0_group : GoodIn wsX6_eraseFurther (wsV RX6 261 RX0 yX0_group wsX0_group) := goodIn_app (goodIn_of _ (by decide +kernel)) ggX6_eraseFurther_X0_group
set_option maxRecDepth 20000 in
theorem ggX6_eraseFurther_X0_tickGroup : GoodIn wsX6_eraseFurther wsX0_tickGroup := goodIn_r _ [12, 13, 8, 14, 59, 60, 61, 62, 63, 64] (by decide +kernel) (by decide +kernel)
set_option maxRecDepth 20000 in
theorem gX6_eraseFurther_X0_tickGroup : GoodIn wsX6_eraseFurther (wsV RX6 401 RX0 yX0_tickGroup wsX0_tickGroup) := goodIn_app (goodIn_of _ (by decide +kernel)) ggX6_eraseFurther_X0_tickGroup
set_option maxRecDepth 20000 in
theorem ggX6_eraseFurther_X3_eraseGroup : GoodIn wsX6_eraseFurther wsX3_eraseGroup := goodIn_r _ [19, 20, 21, 22, 23, 18, 24, 25, 26, 27, 28, 29, 30, 31, 32, 33, 34, 35, 36, 37, 38, 39, 40, 41, 65, 66, 67, 68, 69, 70] (by decide +kernel) (by decide +kernel)
set_option maxRecDepth 20000 in
theorem gX6_eraseFurther_X3_eraseGroup : GoodIn wsX6_eraseFurther (wsV RX6 404 RX3 yX3_eraseGroup wsX3_eraseGroup) := goodIn_app (goodIn_of _ (by decide +kernel)) ggX6_eraseFurther_X3_eraseGroup
theorem dX6_eraseFurther_0 : decode cX6_eraseFurther 0 = .ok (.aload_n 0, 1) := by decide +kernel
theorem dX6_eraseFurther_1 : decode cX6_eraseFurther 1 = .ok (.getfield 38, 3) := by decide +kernel
theorem dX6_eraseFurther_4 : decode cX6_eraseFurther 4 = .ok (.invokevirtual 261, 3) := by decide +kernel
theorem dX6_eraseFurther_7 : decode cX6_eraseFurther 7 = .ok (.istore_n 1, 1) := by decide +kernel
theorem dX6_eraseFurther_8 : decode cX6_eraseFurther 8 = .ok (.aload_n 0, 1) := by decide +kernel
theorem dX6_eraseFurther_9 : decode cX6_eraseFurther 9 = .ok (.getfield 38, 3) := by decide +kernel
theorem dX6_eraseFurther_12 : decode cX6_eraseFurther 12 = .ok (.invokevirtual 401, 3) := by decide +kernel
theorem dX6_eraseFurther_15 : decode cX6_eraseFurther 15 = .ok (.ifCond .eq 11, 3) := by decide +kernel
theorem dX6_eraseFurther_18 : decode cX6_eraseFurther 18 = .ok (.aload_n 0, 1) := by decide +kernel
theorem dX6_eraseFurther_19 : decode cX6_eraseFurther 19 = .ok (.getfield 10, 3) := by decide +kernel
theorem dX6_eraseFurther_22 : decode cX6_eraseFurther 22 = .ok (.iload_n 1, 1) := by decide +kernel
theorem dX6_eraseFurther_23 : decode cX6_eraseFurther 23 = .ok (.invokevirtual 404, 3) := by decide +kernel
theorem dX6_eraseFurther_26 : decode cX6_eraseFurther 26 = .ok (.return_, 1) := by decide +kernel
set_option maxRecDepth 20000 in
theorem ggX7_init_X7_make : GoodIn wsX7_init wsX7_make := goodIn_r _ [17, 18, 19, 20, 21, 22, 23, 24, 25, 26, 27, 28, 29, 30, 6, 31, 7, 32, 33, 34, 16, 35, 36, 37, 38, 39, 40, 41, 42, 43, 44, 45, 46, 47, 48, 49, 50, 51, 52, 53, 54, 55, 56, 57, 58, 59, 60, 61, 62, 63, 64, 65, 66, 67, 68, 69, 70, 71, 72, 73, 74, 75, 76, 77, 78, 79, 80, 81, 82, 83, 84, 85, 86, 87, 88, 89, 90, 91, 92, 93] (by decide +kernel) (by decide +kernel)
set_option maxRecDepth 20000 in
theorem gX7_init_X7_make : GoodIn wsX7_init (wsV RX7 34 RX7 yX7_make wsX7_make) := goodIn_app (goodIn_of _ (by decide +kernel)) ggX7_init_X7_make
theorem dX7_init_0 : decode cX7_init 0 = .ok (.aload_n 0, 1) := by decide +kernel
theorem dX7_init_1 : decode cX7_init 1 = .ok (.invokespecial 1, 3) := by decide +kernel
theorem dX7_init_4 : decode cX7_init 4 = .ok (.aload_n 0, 1) := by decide +kernel
theorem dX7_init_5 : decode cX7_init 5 = .ok (.sipush 200, 3) := by decide +kernel
theorem dX7_init_8 : decode cX7_init 8 = .ok (.newarray .int, 2) := by decide +kernel
theorem dX7_init_10 : decode cX7_init 10 = .ok (.putfield 7, 3) := by decide +kernel
theorem dX7_init_13 : decode cX7_init 13 = .ok (.aload_n 0, 1) := by decide +kernel
theorem dX7_init_14 : decode cX7_init 14 = .ok (.bipush 64, 2) := by decide +kernel
theorem dX7_init_16 : decode cX7_init 16 = .ok (.newarray .int, 2) := by decide +kernel
theorem dX7_init_18 : decode cX7_init 18 = .ok (.putfield 13, 3) := by decide +kernel
theorem dX7_init_21 : decode cX7_init 21 = .ok (.aload_n 0, 1) := by decide +kernel
theorem dX7_init_22 : decode cX7_init 22 = .ok (.bipush 64, 2) := by decide +kernel
theorem dX7_init_24 : decode cX7_init 24 = .ok (.newarray .int, 2) := by decide +kernel
theorem dX7_init_26 : decode cX7_init 26 = .ok (.putfield 16, 3) := by decide +kernel
theorem dX7_init_29 : decode cX7_init 29 = .ok (.aload_n 0, 1) := by decide +kernel
theorem dX7_init_30 : decode cX7_init 30 = .ok (.bipush 8, 2) := by decide +kernel
theorem dX7_init_32 : decode cX7_init 32 = .ok (.newarray .int, 2) := by decide +kernel
theorem dX7_init_34 : decode cX7_init 34 = .ok (.putfield 19, 3) := by decide +kernel
theorem dX7_init_37 : decode cX7_init 37 = .ok (.aload_n 0, 1) := by decide +kernel
theorem dX7_init_38 : decode cX7_init 38 = .ok (.bipush 64, 2) := by decide +kernel
theorem dX7_init_40 : decode cX7_init 40 = .ok (.newarray .int, 2) := by decide +kernel
theorem dX7_init_42 : decode cX7_init 42 = .ok (.putfield 22, 3) := by decide +kernel
theorem dX7_init_45 : decode cX7_init 45 = .ok (.aload_n 0, 1) := by decide +kernel
theorem dX7_init_46 : decode cX7_init 46 = .ok (.iconst 2, 1) := by decide +kernel
theorem dX7_init_47 : decode cX7_init 47 = .ok (.newarray .int, 2) := by decide +kernel
theorem dX7_init_49 : decode cX7_init 49 = .ok (.putfield 25, 3) := by decide +kernel
theorem dX7_init_52 : decode cX7_init 52 = .ok (.aload_n 0, 1) := by decide +kernel
theorem dX7_init_53 : decode cX7_init 53 = .ok (.iconst 2, 1) := by decide +kernel
theorem dX7_init_54 : decode cX7_init 54 = .ok (.newarray .int, 2) := by decide +kernel
theorem dX7_init_56 : decode cX7_init 56 = .ok (.putfield 28, 3) := by decide +kernel
theorem dX7_init_59 : decode cX7_init 59 = .ok (.aload_n 0, 1) := by decide +kernel
theorem dX7_init_60 : decode cX7_init 60 = .ok (.iconst 2, 1) := by decide +kernel
theorem dX7_init_61 : decode cX7_init 61 = .ok (.newarray .int, 2) := by decide +kernel
theorem dX7_init_63 : decode cX7_init 63 = .ok (.putfield 31, 3) := by decide +kernel
theorem dX7_init_66 : decode cX7_init 66 = .ok (.aload_n 0, 1) := by decide +kernel
theorem dX7_init_67 : decode cX7_init 67 = .ok (.bipush 32, 2) := by decide +kernel
theorem dX7_init_69 : decode cX7_init 69 = .ok (.iconst 4, 1) := by decide +kernel
theorem dX7_init_70 : decode cX7_init 70 = .ok (.iconst 2, 1) := by decide +kernel
theorem dX7_init_71 : decode cX7_init 71 = .ok (.sipush 1000, 3) := by decide +kernel
theorem dX7_init_74 : decode cX7_init 74 = .ok (.invokevirtual 34, 3) := by decide +kernel
theorem dX7_init_77 : decode cX7_init 77 = .ok (.pop, 1) := by decide +kernel
theorem dX7_init_78 : decode cX7_init 78 = .ok (.return_, 1) := by decide +kernel
theorem dX7_in_0 : decode cX7_in 0 = .ok (.lload_n 0, 1) := by decide +kernel
theorem dX7_in_1 : decode cX7_in 1 = .ok (.lload_n 2, 1) := by decide +kernel
theorem dX7_in_2 : decode cX7_in 2 = .ok (.lcmp, 1) := by decide +kernel
theorem dX7_in_3 : decode cX7_in 3 = .ok (.ifCond .lt 14, 3) := by decide +kernel
theorem dX7_in_6 : decode cX7_in 6 = .ok (.lload_n 0, 1) := by decide +kernel
theorem dX7_in_7 : decode cX7_in 7 = .ok (.lload 4, 2) := by decide +kernel
theorem dX7_in_9 : decode cX7_in 9 = .ok (.lcmp, 1) := by decide +kernel
theorem dX7_in_10 : decode cX7_in 10 = .ok (.ifCond .gt 7, 3) := by decide +kernel
theorem dX7_in_13 : decode cX7_in 13 = .ok (.iconst 1, 1) := by decide +kernel
theorem dX7_in_14 : decode cX7_in 14 = .ok (.goto 4, 3) := by decide +kernel
theorem dX7_in_17 : decode cX7_in 17 = .ok (.iconst 0, 1) := by decide +kernel
theorem dX7_in_18 : decode cX7_in 18 = .ok (.ireturn, 1) := by decide +kernel
set_option maxRecDepth 20000 in
theorem ggX7_make_X7_in : GoodIn wsX7_make wsX7_in := goodIn_r _ [21] (by decide +kernel) (by decide +kernel)
set_option maxRecDepth 20000 in
theorem gX7_make_X7_in : GoodIn wsX7_make (va_wsS RX7 42 yX7_in wsX7_in) := goodIn_app (goodIn_of _ (by decide +kernel)) ggX7_make_X7_in
set_option maxRecDepth 20000 in
theorem ggX7_make_X7_begins : GoodIn wsX7_make wsX7_begins := goodIn_r _ [25, 26, 27, 28, 29, 30, 12, 31, 32, 33, 34, 35, 36, 37, 38, 39, 40, 41, 42, 43, 44, 45, 46, 47, 48, 49, 50, 51, 52, 53, 54, 55, 56, 57, 58, 59, 60, 61, 62, 63, 64, 65, 66, 67, 68, 69, 70, 71, 72, 73, 74, 75, 76, 77, 78, 79] (by decide +kernel) (by decide +kernel)
set_option maxRecDepth 20000 in
theorem gX7_make_X7_begins : GoodIn wsX7_make (wsV RX7 82 RX7 yX7_begins wsX7_begins) := goodIn_app (goodIn_of _ (by decide +kernel)) ggX7_make_X7_begins
theorem dX7_make_0 : decode cX7_make 0 = .ok (.iload_n 1, 1) := by decide +kernel
theorem dX7_make_1 : decode cX7_make 1 = .ok (.i2l, 1) := by decide +kernel
theorem dX7_make_2 : decode cX7_make 2 = .ok (.ldc2_w 38, 3) := by decide +kernel
theorem dX7_make_5 : decode cX7_make 5 = .ok (.ldc2_w 40, 3) := by decide +kernel
theorem dX7_make_8 : decode cX7_make 8 = .ok (.invokestatic 42, 3) := by decide +kernel
theorem dX7_make_11 : decode cX7_make 11 = .ok (.ifCond .eq 40, 3) := by decide +kernel
theorem dX7_make_14 : decode cX7_make 14 = .ok (.iload_n 2, 1) := by decide +kernel
theorem dX7_make_15 : decode cX7_make 15 = .ok (.i2l, 1) := by decide +kernel
theorem dX7_make_16 : decode cX7_make 16 = .ok (.lconst 1, 1) := by decide +kernel
theorem dX7_make_17 : decode cX7_make 17 = .ok (.ldc2_w 46, 3) := by decide +kernel
theorem dX7_make_20 : decode cX7_make 20 = .ok (.invokestatic 42, 3) := by decide +kernel
theorem dX7_make_23 : decode cX7_make 23 = .ok (.ifCond .eq 28, 3) := by decide +kernel
theorem dX7_make_26 : decode cX7_make 26 = .ok (.iload_n 3, 1) := by decide +kernel
theorem dX7_make_27 : decode cX7_make 27 = .ok (.i2l, 1) := by decide +kernel
theorem dX7_make_28 : decode cX7_make 28 = .ok (.lconst 0, 1) := by decide +kernel
theorem dX7_make_29 : decode cX7_make 29 = .ok (.ldc2_w 48, 3) := by decide +kernel
theorem dX7_make_32 : decode cX7_make 32 = .ok (.invokestatic 42, 3) := by decide +kernel
theorem dX7_make_35 : decode cX7_make 35 = .ok (.ifCond .eq 16, 3) := by decide +kernel
theorem dX7_make_38 : decode cX7_make 38 = .ok (.iload 4, 2) := by decide +kernel
theorem dX7_make_40 : decode cX7_make 40 = .ok (.i2l, 1) := by decide +kernel
theorem dX7_make_41 : decode cX7_make 41 = .ok (.lconst 0, 1) := by decide +kernel
theorem dX7_make_42 : decode cX7_make 42 = .ok (.ldc2_w 50, 3) := by decide +kernel
theorem dX7_make_45 : decode cX7_make 45 = .ok (.invokestatic 42, 3) := by decide +kernel
theorem dX7_make_48 : decode cX7_make 48 = .ok (.ifCond .ne 5, 3) := by decide +kernel
theorem dX7_make_51 : decode cX7_make 51 = .ok (.iconst (-1), 1) := by decide +kernel
theorem dX7_make_52 : decode cX7_make 52 = .ok (.ireturn, 1) := by decide +kernel
theorem dX7_make_53 : decode cX7_make 53 = .ok (.aload_n 0, 1) := by decide +kernel
theorem dX7_make_54 : decode cX7_make 54 = .ok (.iload_n 1, 1) := by decide +kernel
theorem dX7_make_55 : decode cX7_make 55 = .ok (.putfield 52, 3) := by decide +kernel
theorem dX7_make_58 : decode cX7_make 58 = .ok (.aload_n 0, 1) := by decide +kernel
theorem dX7_make_59 : decode cX7_make 59 = .ok (.iload_n 2, 1) := by decide +kernel
theorem dX7_make_60 : decode cX7_make 60 = .ok (.putfield 56, 3) := by decide +kernel
theorem dX7_make_63 : decode cX7_make 63 = .ok (.aload_n 0, 1) := by decide +kernel
theorem dX7_make_64 : decode cX7_make 64 = .ok (.iload_n 3, 1) := by decide +kernel
theorem dX7_make_65 : decode cX7_make 65 = .ok (.putfield 59, 3) := by decide +kernel
theorem dX7_make_68 : decode cX7_make 68 = .ok (.aload_n 0, 1) := by decide +kernel
theorem dX7_make_69 : decode cX7_make 69 = .ok (.iload 4, 2) := by decide +kernel
theorem dX7_make_71 : decode cX7_make 71 = .ok (.putfield 62, 3) := by decide +kernel
theorem dX7_make_74 : decode cX7_make 74 = .ok (.aload_n 0, 1) := by decide +kernel
theorem dX7_make_75 : decode cX7_make 75 = .ok (.iconst 0, 1) := by decide +kernel
theorem dX7_make_76 : decode cX7_make 76 = .ok (.putfield 65, 3) := by decide +kernel
theorem dX7_make_79 : decode cX7_make 79 = .ok (.aload_n 0, 1) := by decide +kernel
theorem dX7_make_80 : decode cX7_make 80 = .ok (.iconst 0, 1) := by decide +kernel
theorem dX7_make_81 : decode cX7_make 81 = .ok (.putfield 68, 3) := by decide +kernel
theorem dX7_make_84 : decode cX7_make 84 = .ok (.aload_n 0, 1) := by decide +kernel
theorem dX7_make_85 : decode cX7_make 85 = .ok (.iconst 0, 1) := by decide +kernel
theorem dX7_make_86 : decode cX7_make 86 = .ok (.putfield 71, 3) := by decide +kernel
theorem dX7_make_89 : decode cX7_make 89 = .ok (.aload_n 0, 1) := by decide +kernel
theorem dX7_make_90 : decode cX7_make 90 = .ok (.iconst 0, 1) := by decide +kernel
theorem dX7_make_91 : decode cX7_make 91 = .ok (.putfield 74, 3) := by decide +kernel
theorem dX7_make_94 : decode cX7_make 94 = .ok (.iconst 0, 1) := by decide +kernel
theorem dX7_make_95 : decode cX7_make 95 = .ok (.istore 5, 2) := by decide +kernel
theorem dX7_make_97 : decode cX7_make 97 = .ok (.iload 5, 2) := by decide +kernel
theorem dX7_make_99 : decode cX7_make 99 = .ok (.bipush 64, 2) := by decide +kernel
theorem dX7_make_101 : decode cX7_make 101 = .ok (.if_icmp .ge 26, 3) := by decide +kernel
theorem dX7_make_104 : decode cX7_make 104 = .ok (.aload_n 0, 1) := by decide +kernel
theorem dX7_make_105 : decode cX7_make 105 = .ok (.getfield 13, 3) := by decide +kernel
theorem dX7_make_108 : decode cX7_make 108 = .ok (.iload 5, 2) := by decide +kernel
theorem dX7_make_110 : decode cX7_make 110 = .ok (.ldc 77, 2) := by decide +kernel
theorem dX7_make_112 : decode cX7_make 112 = .ok (.iastore, 1) := by decide +kernel
theorem dX7_make_113 : decode cX7_make 113 = .ok (.aload_n 0, 1) := by decide +kernel
theorem dX7_make_114 : decode cX7_make 114 = .ok (.getfield 16, 3) := by decide +kernel
theorem dX7_make_117 : decode cX7_make 117 = .ok (.iload 5, 2) := by decide +kernel
theorem dX7_make_119 : decode cX7_make 119 = .ok (.iconst 0, 1) := by decide +kernel
theorem dX7_make_120 : decode cX7_make 120 = .ok (.iastore, 1) := by decide +kernel
theorem dX7_make_121 : decode cX7_make 121 = .ok (.iinc 5 1, 3) := by decide +kernel
theorem dX7_make_124 : decode cX7_make 124 = .ok (.goto (-27), 3) := by decide +kernel
theorem dX7_make_127 : decode cX7_make 127 = .ok (.aload_n 0, 1) := by decide +kernel
theorem dX7_make_128 : decode cX7_make 128 = .ok (.iconst 0, 1) := by decide +kernel
theorem dX7_make_129 : decode cX7_make 129 = .ok (.putfield 78, 3) := by decide +kernel
theorem dX7_make_132 : decode cX7_make 132 = .ok (.aload_n 0, 1) := by decide +kernel
theorem dX7_make_133 : decode cX7_make 133 = .ok (.invokevirtual 82, 3) := by decide +kernel
theorem dX7_make_136 : decode cX7_make 136 = .ok (.iload_n 1, 1) := by decide +kernel
theorem dX7_make_137 : decode cX7_make 137 = .ok (.ireturn, 1) := by decide +kernel
theorem dX7_begins_0 : decode cX7_begins 0 = .ok (.aload_n 0, 1) := by decide +kernel
theorem dX7_begins_1 : decode cX7_begins 1 = .ok (.iconst 0, 1) := by decide +kernel
theorem dX7_begins_2 : decode cX7_begins 2 = .ok (.putfield 85, 3) := by decide +kernel
theorem dX7_begins_5 : decode cX7_begins 5 = .ok (.aload_n 0, 1) := by decide +kernel
theorem dX7_begins_6 : decode cX7_begins 6 = .ok (.iconst 0, 1) := by decide +kernel
theorem dX7_begins_7 : decode cX7_begins 7 = .ok (.putfield 88, 3) := by decide +kernel
theorem dX7_begins_10 : decode cX7_begins 10 = .ok (.aload_n 0, 1) := by decide +kernel
theorem dX7_begins_11 : decode cX7_begins 11 = .ok (.iconst 0, 1) := by decide +kernel
theorem dX7_begins_12 : decode cX7_begins 12 = .ok (.putfield 91, 3) := by decide +kernel
theorem dX7_begins_15 : decode cX7_begins 15 = .ok (.aload_n 0, 1) := by decide +kernel
theorem dX7_begins_16 : decode cX7_begins 16 = .ok (.iconst 0, 1) := by decide +kernel
theorem dX7_begins_17 : decode cX7_begins 17 = .ok (.putfield 94, 3) := by decide +kernel
theorem dX7_begins_20 : decode cX7_begins 20 = .ok (.aload_n 0, 1) := by decide +kernel
theorem dX7_begins_21 : decode cX7_begins 21 = .ok (.iconst 0, 1) := by decide +kernel
theorem dX7_begins_22 : decode cX7_begins 22 = .ok (.putfield 97, 3) := by decide +kernel
theorem dX7_begins_25 : decode cX7_begins 25 = .ok (.aload_n 0, 1) := by decide +kernel
theorem dX7_begins_26 : decode cX7_begins 26 = .ok (.aload_n 0, 1) := by decide +kernel
theorem dX7_begins_27 : decode cX7_begins 27 = .ok (.getfield 71, 3) := by decide +kernel
theorem dX7_begins_30 : decode cX7_begins 30 = .ok (.ifCond .le 7, 3) := by decide +kernel
theorem dX7_begins_33 : decode cX7_begins 33 = .ok (.iconst 1, 1) := by decide +kernel
theorem dX7_begins_34 : decode cX7_begins 34 = .ok (.goto 4, 3) := by decide +kernel
theorem dX7_begins_37 : decode cX7_begins 37 = .ok (.iconst 0, 1) := by decide +kernel
theorem dX7_begins_38 : decode cX7_begins 38 = .ok (.putfield 100, 3) := by decide +kernel
theorem dX7_begins_41 : decode cX7_begins 41 = .ok (.aload_n 0, 1) := by decide +kernel
theorem dX7_begins_42 : decode cX7_begins 42 = .ok (.iconst 0, 1) := by decide +kernel
theorem dX7_begins_43 : decode cX7_begins 43 = .ok (.putfield 103, 3) := by decide +kernel
theorem dX7_begins_46 : decode cX7_begins 46 = .ok (.aload_n 0, 1) := by decide +kernel
theorem dX7_begins_47 : decode cX7_begins 47 = .ok (.iconst 0, 1) := by decide +kernel
theorem dX7_begins_48 : decode cX7_begins 48 = .ok (.putfield 106, 3) := by decide +kernel
theorem dX7_begins_51 : decode cX7_begins 51 = .ok (.aload_n 0, 1) := by decide +kernel
theorem dX7_begins_52 : decode cX7_begins 52 = .ok (.iconst 0, 1) := by decide +kernel
theorem dX7_begins_53 : decode cX7_begins 53 = .ok (.putfield 109, 3) := by decide +kernel
theorem dX7_begins_56 : decode cX7_begins 56 = .ok (.aload_n 0, 1) := by decide +kernel
theorem dX7_begins_57 : decode cX7_begins 57 = .ok (.iconst 0, 1) := by decide +kernel
theorem dX7_begins_58 : decode cX7_begins 58 = .ok (.putfield 112, 3) := by decide +kernel
theorem dX7_begins_61 : decode cX7_begins 61 = .ok (.aload_n 0, 1) := by decide +kernel
theorem dX7_begins_62 : decode cX7_begins 62 = .ok (.bipush (-4), 2) := by decide +kernel
theorem dX7_begins_64 : decode cX7_begins 64 = .ok (.putfield 115, 3) := by decide +kernel
theorem dX7_begins_67 : decode cX7_begins 67 = .ok (.aload_n 0, 1) := by decide +kernel
theorem dX7_begins_68 : decode cX7_begins 68 = .ok (.iconst 0, 1) := by decide +kernel
theorem dX7_begins_69 : decode cX7_begins 69 = .ok (.putfield 118, 3) := by decide +kernel
theorem dX7_begins_72 : decode cX7_begins 72 = .ok (.aload_n 0, 1) := by decide +kernel
theorem dX7_begins_73 : decode cX7_begins 73 = .ok (.iconst 0, 1) := by decide +kernel
theorem dX7_begins_74 : decode cX7_begins 74 = .ok (.putfield 121, 3) := by decide +kernel
theorem dX7_begins_77 : decode cX7_begins 77 = .ok (.aload_n 0, 1) := by decide +kernel
theorem dX7_begins_78 : decode cX7_begins 78 = .ok (.iconst 0, 1) := by decide +kernel
theorem dX7_begins_79 : decode cX7_begins 79 = .ok (.putfield 124, 3) := by decide +kernel
theorem dX7_begins_82 : decode cX7_begins 82 = .ok (.aload_n 0, 1) := by decide +kernel
theorem dX7_begins_83 : decode cX7_begins 83 = .ok (.bipush (-4), 2) := by decide +kernel
theorem dX7_begins_85 : decode cX7_begins 85 = .ok (.putfield 127, 3) := by decide +kernel
theorem dX7_begins_88 : decode cX7_begins 88 = .ok (.aload_n 0, 1) := by decide +kernel
theorem dX7_begins_89 : decode cX7_begins 89 = .ok (.iconst 0, 1) := by decide +kernel
theorem dX7_begins_90 : decode cX7_begins 90 = .ok (.putfield 130, 3) := by decide +kernel
theorem dX7_begins_93 : decode cX7_begins 93 = .ok (.return_, 1) := by decide +kernel
theorem dX7_forgets_0 : decode cX7_forgets 0 = .ok (.iconst 0, 1) := by decide +kernel
theorem dX7_forgets_1 : decode cX7_forgets 1 = .ok (.istore_n 2, 1) := by decide +kernel
theorem dX7_forgets_2 : decode cX7_forgets 2 = .ok (.iconst 0, 1) := by decide +kernel
theorem dX7_forgets_3 : decode cX7_forgets 3 = .ok (.istore_n 3, 1) := by decide +kernel
theorem dX7_forgets_4 : decode cX7_forgets 4 = .ok (.iload_n 3, 1) := by decide +kernel
theorem dX7_forgets_5 : decode cX7_forgets 5 = .ok (.aload_n 0, 1) := by decide +kernel
theorem dX7_forgets_6 : decode cX7_forgets 6 = .ok (.getfield 74, 3) := by decide +kernel
theorem dX7_forgets_9 : decode cX7_forgets 9 = .ok (.if_icmp .ge 34, 3) := by decide +kernel
theorem dX7_forgets_12 : decode cX7_forgets 12 = .ok (.aload_n 0, 1) := by decide +kernel
theorem dX7_forgets_13 : decode cX7_forgets 13 = .ok (.getfield 22, 3) := by decide +kernel
theorem dX7_forgets_16 : decode cX7_forgets 16 = .ok (.iload_n 3, 1) := by decide +kernel
theorem dX7_forgets_17 : decode cX7_forgets 17 = .ok (.iaload, 1) := by decide +kernel
theorem dX7_forgets_18 : decode cX7_forgets 18 = .ok (.iload_n 1, 1) := by decide +kernel
theorem dX7_forgets_19 : decode cX7_forgets 19 = .ok (.if_icmp .eq 18, 3) := by decide +kernel
theorem dX7_forgets_22 : decode cX7_forgets 22 = .ok (.aload_n 0, 1) := by decide +kernel
theorem dX7_forgets_23 : decode cX7_forgets 23 = .ok (.getfield 22, 3) := by decide +kernel
theorem dX7_forgets_26 : decode cX7_forgets 26 = .ok (.iload_n 2, 1) := by decide +kernel
theorem dX7_forgets_27 : decode cX7_forgets 27 = .ok (.aload_n 0, 1) := by decide +kernel
theorem dX7_forgets_28 : decode cX7_forgets 28 = .ok (.getfield 22, 3) := by decide +kernel
theorem dX7_forgets_31 : decode cX7_forgets 31 = .ok (.iload_n 3, 1) := by decide +kernel
theorem dX7_forgets_32 : decode cX7_forgets 32 = .ok (.iaload, 1) := by decide +kernel
theorem dX7_forgets_33 : decode cX7_forgets 33 = .ok (.iastore, 1) := by decide +kernel
theorem dX7_forgets_34 : decode cX7_forgets 34 = .ok (.iinc 2 1, 3) := by decide +kernel
theorem dX7_forgets_37 : decode cX7_forgets 37 = .ok (.iinc 3 1, 3) := by decide +kernel
theorem dX7_forgets_40 : decode cX7_forgets 40 = .ok (.goto (-36), 3) := by decide +kernel
theorem dX7_forgets_43 : decode cX7_forgets 43 = .ok (.aload_n 0, 1) := by decide +kernel
theorem dX7_forgets_44 : decode cX7_forgets 44 = .ok (.iload_n 2, 1) := by decide +kernel
theorem dX7_forgets_45 : decode cX7_forgets 45 = .ok (.putfield 74, 3) := by decide +kernel
theorem dX7_forgets_48 : decode cX7_forgets 48 = .ok (.return_, 1) := by decide +kernel
set_option maxRecDepth 20000 in
theorem ggX7_empties_X7_forgets : GoodIn wsX7_empties wsX7_forgets := goodIn_r _ [8, 9, 10, 11, 12, 13, 14, 15, 16, 17, 18, 19, 20, 21, 22, 23, 24, 25, 26, 27, 28, 29, 30, 31, 32, 33, 34, 35, 36, 37, 38, 39, 40, 41, 42, 43, 44, 45, 46, 47, 48] (by decide +kernel) (by decide +kernel)
set_option maxRecDepth 20000 in
theorem gX7_empties_X7_forgets : GoodIn wsX7_empties (wsV RX7 133 RX7 yX7_forgets wsX7_forgets) := goodIn_app (goodIn_of _ (by decide +kernel)) ggX7_empties_X7_forgets
theorem dX7_empties_0 : decode cX7_empties 0 = .ok (.aload_n 0, 1) := by decide +kernel
theorem dX7_empties_1 : decode cX7_empties 1 = .ok (.getfield 13, 3) := by decide +kernel
theorem dX7_empties_4 : decode cX7_empties 4 = .ok (.iload_n 1, 1) := by decide +kernel
theorem dX7_empties_5 : decode cX7_empties 5 = .ok (.ldc 77, 2) := by decide +kernel
theorem dX7_empties_7 : decode cX7_empties 7 = .ok (.iastore, 1) := by decide +kernel
theorem dX7_empties_8 : decode cX7_empties 8 = .ok (.aload_n 0, 1) := by decide +kernel
theorem dX7_empties_9 : decode cX7_empties 9 = .ok (.getfield 16, 3) := by decide +kernel
theorem dX7_empties_12 : decode cX7_empties 12 = .ok (.iload_n 1, 1) := by decide +kernel
theorem dX7_empties_13 : decode cX7_empties 13 = .ok (.iload_n 2, 1) := by decide +kernel
theorem dX7_empties_14 : decode cX7_empties 14 = .ok (.iastore, 1) := by decide +kernel
theorem dX7_empties_15 : decode cX7_empties 15 = .ok (.aload_n 0, 1) := by decide +kernel
theorem dX7_empties_16 : decode cX7_empties 16 = .ok (.iload_n 1, 1) := by decide +kernel
theorem dX7_empties_17 : decode cX7_empties 17 = .ok (.invokevirtual 133, 3) := by decide +kernel
theorem dX7_empties_20 : decode cX7_empties 20 = .ok (.return_, 1) := by decide +kernel
set_option maxRecDepth 20000 in
theorem ggX7_groupEmpties_X7_empties : GoodIn wsX7_groupEmpties wsX7_empties := goodIn_r _ [7, 8, 9, 10, 11, 12, 13, 6, 14, 15, 16, 17, 18, 19, 20, 21, 22, 23, 24, 25, 26, 27, 28, 29, 30, 31, 32, 33, 34, 35, 36, 37, 38, 39, 40, 41, 42, 43, 44, 45, 46, 47, 48, 49, 50, 51, 52, 53, 54] (by decide +kernel) (by decide +kernel)
set_option maxRecDepth 20000 in
theorem gX7_groupEmpties_X7_empties : GoodIn wsX7_groupEmpties (wsV RX7 137 RX7 yX7_empties wsX7_empties) := goodIn_app (goodIn_of _ (by decide +kernel)) ggX7_groupEmpties_X7_empties
theorem dX7_groupEmpties_0 : decode cX7_groupEmpties 0 = .ok (.iload_n 1, 1) := by decide +kernel
theorem dX7_groupEmpties_1 : decode cX7_groupEmpties 1 = .ok (.aload_n 0, 1) := by decide +kernel
theorem dX7_groupEmpties_2 : decode cX7_groupEmpties 2 = .ok (.getfield 56, 3) := by decide +kernel
theorem dX7_groupEmpties_5 : decode cX7_groupEmpties 5 = .ok (.imul, 1) := by decide +kernel
theorem dX7_groupEmpties_6 : decode cX7_groupEmpties 6 = .ok (.istore_n 3, 1) := by decide +kernel
theorem dX7_groupEmpties_7 : decode cX7_groupEmpties 7 = .ok (.iload_n 3, 1) := by decide +kernel
theorem dX7_groupEmpties_8 : decode cX7_groupEmpties 8 = .ok (.iload_n 1, 1) := by decide +kernel
theorem dX7_groupEmpties_9 : decode cX7_groupEmpties 9 = .ok (.iconst 1, 1) := by decide +kernel
theorem dX7_groupEmpties_10 : decode cX7_groupEmpties 10 = .ok (.iadd, 1) := by decide +kernel
theorem dX7_groupEmpties_11 : decode cX7_groupEmpties 11 = .ok (.aload_n 0, 1) := by decide +kernel
theorem dX7_groupEmpties_12 : decode cX7_groupEmpties 12 = .ok (.getfield 56, 3) := by decide +kernel
theorem dX7_groupEmpties_15 : decode cX7_groupEmpties 15 = .ok (.imul, 1) := by decide +kernel
theorem dX7_groupEmpties_16 : decode cX7_groupEmpties 16 = .ok (.if_icmp .ge 23, 3) := by decide +kernel
theorem dX7_groupEmpties_19 : decode cX7_groupEmpties 19 = .ok (.iload_n 3, 1) := by decide +kernel
theorem dX7_groupEmpties_20 : decode cX7_groupEmpties 20 = .ok (.aload_n 0, 1) := by decide +kernel
theorem dX7_groupEmpties_21 : decode cX7_groupEmpties 21 = .ok (.getfield 52, 3) := by decide +kernel
theorem dX7_groupEmpties_24 : decode cX7_groupEmpties 24 = .ok (.if_icmp .ge 15, 3) := by decide +kernel
theorem dX7_groupEmpties_27 : decode cX7_groupEmpties 27 = .ok (.aload_n 0, 1) := by decide +kernel
theorem dX7_groupEmpties_28 : decode cX7_groupEmpties 28 = .ok (.iload_n 3, 1) := by decide +kernel
theorem dX7_groupEmpties_29 : decode cX7_groupEmpties 29 = .ok (.iload_n 2, 1) := by decide +kernel
theorem dX7_groupEmpties_30 : decode cX7_groupEmpties 30 = .ok (.invokevirtual 137, 3) := by decide +kernel
theorem dX7_groupEmpties_33 : decode cX7_groupEmpties 33 = .ok (.iinc 3 1, 3) := by decide +kernel
theorem dX7_groupEmpties_36 : decode cX7_groupEmpties 36 = .ok (.goto (-29), 3) := by decide +kernel
theorem dX7_groupEmpties_39 : decode cX7_groupEmpties 39 = .ok (.return_, 1) := by decide +kernel
theorem dX7_groups_0 : decode cX7_groups 0 = .ok (.aload_n 0, 1) := by decide +kernel
theorem dX7_groups_1 : decode cX7_groups 1 = .ok (.getfield 52, 3) := by decide +kernel
theorem dX7_groups_4 : decode cX7_groups 4 = .ok (.aload_n 0, 1) := by decide +kernel
theorem dX7_groups_5 : decode cX7_groups 5 = .ok (.getfield 56, 3) := by decide +kernel
theorem dX7_groups_8 : decode cX7_groups 8 = .ok (.iadd, 1) := by decide +kernel
theorem dX7_groups_9 : decode cX7_groups 9 = .ok (.iconst 1, 1) := by decide +kernel
theorem dX7_groups_10 : decode cX7_groups 10 = .ok (.isub, 1) := by decide +kernel
theorem dX7_groups_11 : decode cX7_groups 11 = .ok (.aload_n 0, 1) := by decide +kernel
theorem dX7_groups_12 : decode cX7_groups 12 = .ok (.getfield 56, 3) := by decide +kernel
theorem dX7_groups_15 : decode cX7_groups 15 = .ok (.idiv, 1) := by decide +kernel
theorem dX7_groups_16 : decode cX7_groups 16 = .ok (.ireturn, 1) := by decide +kernel
set_option maxRecDepth 20000 in
theorem ggX7_cuts_X7_empties : GoodIn wsX7_cuts wsX7_empties := goodIn_r _ [11, 12, 13, 14, 15, 16, 17, 10, 18, 19, 20, 27, 28, 29, 30, 31, 32, 33, 34, 35, 36, 37, 38, 39, 40, 41, 42, 43, 44, 45, 46, 47, 48, 49, 50, 51, 52, 53, 54, 55, 56, 57, 58, 59, 60, 61, 62, 63, 64] (by decide +kernel) (by decide +kernel)
set_option maxRecDepth 20000 in
theorem gX7_cuts_X7_empties : GoodIn wsX7_cuts (wsV RX7 137 RX7 yX7_empties wsX7_empties) := goodIn_app (goodIn_of _ (by decide +kernel)) ggX7_cuts_X7_empties
set_option maxRecDepth 20000 in
theorem ggX7_cuts_X7_groupEmpties : GoodIn wsX7_cuts wsX7_groupEmpties := goodIn_r _ [24, 25, 26, 7, 8, 9, 10, 11, 12, 13, 14, 15, 16, 17, 18, 19, 20, 27, 28, 29, 30, 31, 32, 33, 34, 35, 36, 37, 38, 39, 40, 41, 42, 43, 44, 45, 46, 47, 48, 49, 50, 51, 52, 53, 54, 55, 56, 57, 58, 59, 60, 61, 62, 63, 64] (by decide +kernel) (by decide +kernel)
set_option maxRecDepth 20000 in
theorem gX7_cuts_X7_groupEmpties : GoodIn wsX7_cuts (wsV RX7 144 RX7 yX7_groupEmpties wsX7_groupEmpties) := goodIn_app (goodIn_of _ (by decide +kernel)) ggX7_cuts_X7_groupEmpties
theorem dX7_cuts_0 : decode cX7_cuts 0 = .ok (.aload_n 0, 1) := by decide +kernel
theorem dX7_cuts_1 : decode cX7_cuts 1 = .ok (.getfield 106, 3) := by decide +kernel
theorem dX7_cuts_4 : decode cX7_cuts 4 = .ok (.ifCond .le 23, 3) := by decide +kernel
theorem dX7_cuts_7 : decode cX7_cuts 7 = .ok (.aload_n 0, 1) := by decide +kernel
theorem dX7_cuts_8 : decode cX7_cuts 8 = .ok (.getfield 31, 3) := by decide +kernel
theorem dX7_cuts_11 : decode cX7_cuts 11 = .ok (.iconst 0, 1) := by decide +kernel
theorem dX7_cuts_12 : decode cX7_cuts 12 = .ok (.iaload, 1) := by decide +kernel
theorem dX7_cuts_13 : decode cX7_cuts 13 = .ok (.ifCond .le 14, 3) := by decide +kernel
theorem dX7_cuts_16 : decode cX7_cuts 16 = .ok (.aload_n 0, 1) := by decide +kernel
theorem dX7_cuts_17 : decode cX7_cuts 17 = .ok (.aload_n 0, 1) := by decide +kernel
theorem dX7_cuts_18 : decode cX7_cuts 18 = .ok (.getfield 25, 3) := by decide +kernel
theorem dX7_cuts_21 : decode cX7_cuts 21 = .ok (.iconst 0, 1) := by decide +kernel
theorem dX7_cuts_22 : decode cX7_cuts 22 = .ok (.iaload, 1) := by decide +kernel
theorem dX7_cuts_23 : decode cX7_cuts 23 = .ok (.iconst 1, 1) := by decide +kernel
theorem dX7_cuts_24 : decode cX7_cuts 24 = .ok (.invokevirtual 137, 3) := by decide +kernel
theorem dX7_cuts_27 : decode cX7_cuts 27 = .ok (.aload_n 0, 1) := by decide +kernel
theorem dX7_cuts_28 : decode cX7_cuts 28 = .ok (.getfield 109, 3) := by decide +kernel
theorem dX7_cuts_31 : decode cX7_cuts 31 = .ok (.ifCond .le 19, 3) := by decide +kernel
theorem dX7_cuts_34 : decode cX7_cuts 34 = .ok (.aload_n 0, 1) := by decide +kernel
theorem dX7_cuts_35 : decode cX7_cuts 35 = .ok (.getfield 112, 3) := by decide +kernel
theorem dX7_cuts_38 : decode cX7_cuts 38 = .ok (.ifCond .le 12, 3) := by decide +kernel
theorem dX7_cuts_41 : decode cX7_cuts 41 = .ok (.aload_n 0, 1) := by decide +kernel
theorem dX7_cuts_42 : decode cX7_cuts 42 = .ok (.aload_n 0, 1) := by decide +kernel
theorem dX7_cuts_43 : decode cX7_cuts 43 = .ok (.getfield 141, 3) := by decide +kernel
theorem dX7_cuts_46 : decode cX7_cuts 46 = .ok (.iconst 1, 1) := by decide +kernel
theorem dX7_cuts_47 : decode cX7_cuts 47 = .ok (.invokevirtual 144, 3) := by decide +kernel
theorem dX7_cuts_50 : decode cX7_cuts 50 = .ok (.return_, 1) := by decide +kernel
set_option maxRecDepth 20000 in
theorem ggX7_power_X7_in : GoodIn wsX7_power wsX7_in := goodIn_r _ [5] (by decide +kernel) (by decide +kernel)
set_option maxRecDepth 20000 in
theorem gX7_power_X7_in : GoodIn wsX7_power (va_wsS RX7 42 yX7_in wsX7_in) := goodIn_app (goodIn_of _ (by decide +kernel)) ggX7_power_X7_in
set_option maxRecDepth 20000 in
theorem ggX7_power_X7_cuts : GoodIn wsX7_power wsX7_cuts := goodIn_r _ [9, 10, 11, 12, 13, 14, 15, 16, 17, 18, 4, 19, 20, 21, 22, 23, 24, 25, 26, 27, 28, 29, 30, 31, 32, 33, 34, 53, 54, 55, 56, 57, 58, 59, 60, 61, 62, 63, 64, 65, 66, 67, 68, 69, 70, 71, 72, 73, 74, 75, 76, 77, 78, 79, 80, 81, 82, 83, 84, 85, 86, 87, 88, 89, 90] (by decide +kernel) (by decide +kernel)
set_option maxRecDepth 20000 in
theorem gX7_power_X7_cuts : GoodIn wsX7_power (wsV RX7 147 RX7 yX7_cuts wsX7_cuts) := goodIn_app (goodIn_of _ (by decide +kernel)) ggX7_power_X7_cuts
set_option maxRecDepth 20000 in
theorem ggX7_power_X7_begins : GoodIn wsX7_power wsX7_begins := goodIn_r _ [38, 39, 40, 41, 42, 43, 44, 45, 46, 10, 13, 14, 47, 48, 49, 50, 51, 52, 53, 54, 55, 56, 57, 58, 59, 60, 61, 62, 63, 64, 65, 66, 67, 68, 69, 70, 71, 72, 73, 74, 75, 76, 77, 78, 79, 80, 81, 82, 83, 84, 85, 86, 87, 88, 89, 90] (by decide +kernel) (by decide +kernel)
end
section
set_option maxRecDepth 20000 in
theorem gX7_power_X7_begins : GoodIn wsX7_power (wsV RX7 82 RX7 yX7_begins wsX7_begins) := goodIn_app (goodIn_of _ (by decide +kernel)) ggX7_power_X7_begins
theorem dX7_power_0 : decode cX7_power 0 = .ok (.iload_n 1, 1) := by decide +kernel
theorem dX7_power_1 : decode cX7_power 1 = .ok (.i2l, 1) := by decide +kernel
theorem dX7_power_2 : decode cX7_power 2 = .ok (.lconst 0, 1) := by decide +kernel
theorem dX7_power_3 : decode cX7_power 3 = .ok (.lconst 1, 1) := by decide +kernel
theorem dX7_power_4 : decode cX7_power 4 = .ok (.invokestatic 42, 3) := by decide +kernel
theorem dX7_power_7 : decode cX7_power 7 = .ok (.ifCond .ne 5, 3) := by decide +kernel
theorem dX7_power_10 : decode cX7_power 10 = .ok (.iconst (-1), 1) := by decide +kernel
theorem dX7_power_11 : decode cX7_power 11 = .ok (.ireturn, 1) := by decide +kernel
theorem dX7_power_12 : decode cX7_power 12 = .ok (.aload_n 0, 1) := by decide +kernel
theorem dX7_power_13 : decode cX7_power 13 = .ok (.getfield 78, 3) := by decide +kernel
theorem dX7_power_16 : decode cX7_power 16 = .ok (.iload_n 1, 1) := by decide +kernel
theorem dX7_power_17 : decode cX7_power 17 = .ok (.iconst 1, 1) := by decide +kernel
theorem dX7_power_18 : decode cX7_power 18 = .ok (.if_icmp .ne 7, 3) := by decide +kernel
theorem dX7_power_21 : decode cX7_power 21 = .ok (.iconst 1, 1) := by decide +kernel
theorem dX7_power_22 : decode cX7_power 22 = .ok (.goto 4, 3) := by decide +kernel
theorem dX7_power_25 : decode cX7_power 25 = .ok (.iconst 0, 1) := by decide +kernel
theorem dX7_power_26 : decode cX7_power 26 = .ok (.if_icmp .ne 6, 3) := by decide +kernel
theorem dX7_power_29 : decode cX7_power 29 = .ok (.bipush (-2), 2) := by decide +kernel
theorem dX7_power_31 : decode cX7_power 31 = .ok (.ireturn, 1) := by decide +kernel
theorem dX7_power_32 : decode cX7_power 32 = .ok (.aload_n 0, 1) := by decide +kernel
theorem dX7_power_33 : decode cX7_power 33 = .ok (.getfield 78, 3) := by decide +kernel
theorem dX7_power_36 : decode cX7_power 36 = .ok (.ifCond .eq 7, 3) := by decide +kernel
theorem dX7_power_39 : decode cX7_power 39 = .ok (.aload_n 0, 1) := by decide +kernel
theorem dX7_power_40 : decode cX7_power 40 = .ok (.invokevirtual 147, 3) := by decide +kernel
theorem dX7_power_43 : decode cX7_power 43 = .ok (.aload_n 0, 1) := by decide +kernel
theorem dX7_power_44 : decode cX7_power 44 = .ok (.invokevirtual 82, 3) := by decide +kernel
theorem dX7_power_47 : decode cX7_power 47 = .ok (.aload_n 0, 1) := by decide +kernel
theorem dX7_power_48 : decode cX7_power 48 = .ok (.iload_n 1, 1) := by decide +kernel
theorem dX7_power_49 : decode cX7_power 49 = .ok (.iconst 1, 1) := by decide +kernel
theorem dX7_power_50 : decode cX7_power 50 = .ok (.if_icmp .ne 7, 3) := by decide +kernel
theorem dX7_power_53 : decode cX7_power 53 = .ok (.iconst 1, 1) := by decide +kernel
theorem dX7_power_54 : decode cX7_power 54 = .ok (.goto 4, 3) := by decide +kernel
theorem dX7_power_57 : decode cX7_power 57 = .ok (.iconst 0, 1) := by decide +kernel
theorem dX7_power_58 : decode cX7_power 58 = .ok (.putfield 78, 3) := by decide +kernel
theorem dX7_power_61 : decode cX7_power 61 = .ok (.iconst 1, 1) := by decide +kernel
theorem dX7_power_62 : decode cX7_power 62 = .ok (.ireturn, 1) := by decide +kernel
set_option maxRecDepth 20000 in
theorem ggX7_warm_X7_in : GoodIn wsX7_warm wsX7_in := goodIn_r _ [6] (by decide +kernel) (by decide +kernel)
set_option maxRecDepth 20000 in
theorem gX7_warm_X7_in : GoodIn wsX7_warm (va_wsS RX7 42 yX7_in wsX7_in) := goodIn_app (goodIn_of _ (by decide +kernel)) ggX7_warm_X7_in
theorem dX7_warm_0 : decode cX7_warm 0 = .ok (.iload_n 1, 1) := by decide +kernel
theorem dX7_warm_1 : decode cX7_warm 1 = .ok (.i2l, 1) := by decide +kernel
theorem dX7_warm_2 : decode cX7_warm 2 = .ok (.lconst 0, 1) := by decide +kernel
theorem dX7_warm_3 : decode cX7_warm 3 = .ok (.ldc2_w 150, 3) := by decide +kernel
theorem dX7_warm_6 : decode cX7_warm 6 = .ok (.invokestatic 42, 3) := by decide +kernel
theorem dX7_warm_9 : decode cX7_warm 9 = .ok (.ifCond .ne 5, 3) := by decide +kernel
theorem dX7_warm_12 : decode cX7_warm 12 = .ok (.iconst (-1), 1) := by decide +kernel
theorem dX7_warm_13 : decode cX7_warm 13 = .ok (.ireturn, 1) := by decide +kernel
theorem dX7_warm_14 : decode cX7_warm 14 = .ok (.aload_n 0, 1) := by decide +kernel
theorem dX7_warm_15 : decode cX7_warm 15 = .ok (.getfield 152, 3) := by decide +kernel
theorem dX7_warm_18 : decode cX7_warm 18 = .ok (.istore_n 2, 1) := by decide +kernel
theorem dX7_warm_19 : decode cX7_warm 19 = .ok (.aload_n 0, 1) := by decide +kernel
theorem dX7_warm_20 : decode cX7_warm 20 = .ok (.iload_n 1, 1) := by decide +kernel
theorem dX7_warm_21 : decode cX7_warm 21 = .ok (.putfield 152, 3) := by decide +kernel
theorem dX7_warm_24 : decode cX7_warm 24 = .ok (.iload_n 2, 1) := by decide +kernel
theorem dX7_warm_25 : decode cX7_warm 25 = .ok (.ireturn, 1) := by decide +kernel
set_option maxRecDepth 20000 in
theorem ggX7_write_X7_in : GoodIn wsX7_write wsX7_in := goodIn_r _ [8] (by decide +kernel) (by decide +kernel)
set_option maxRecDepth 20000 in
theorem gX7_write_X7_in : GoodIn wsX7_write (va_wsS RX7 42 yX7_in wsX7_in) := goodIn_app (goodIn_of _ (by decide +kernel)) ggX7_write_X7_in
theorem dX7_write_0 : decode cX7_write 0 = .ok (.iload_n 1, 1) := by decide +kernel
theorem dX7_write_1 : decode cX7_write 1 = .ok (.i2l, 1) := by decide +kernel
theorem dX7_write_2 : decode cX7_write 2 = .ok (.ldc2_w 155, 3) := by decide +kernel
theorem dX7_write_5 : decode cX7_write 5 = .ok (.ldc2_w 157, 3) := by decide +kernel
theorem dX7_write_8 : decode cX7_write 8 = .ok (.invokestatic 42, 3) := by decide +kernel
theorem dX7_write_11 : decode cX7_write 11 = .ok (.ifCond .ne 5, 3) := by decide +kernel
theorem dX7_write_14 : decode cX7_write 14 = .ok (.iconst (-1), 1) := by decide +kernel
theorem dX7_write_15 : decode cX7_write 15 = .ok (.ireturn, 1) := by decide +kernel
theorem dX7_write_16 : decode cX7_write 16 = .ok (.aload_n 0, 1) := by decide +kernel
theorem dX7_write_17 : decode cX7_write 17 = .ok (.getfield 159, 3) := by decide +kernel
theorem dX7_write_20 : decode cX7_write 20 = .ok (.sipush 200, 3) := by decide +kernel
theorem dX7_write_23 : decode cX7_write 23 = .ok (.if_icmp .ne 6, 3) := by decide +kernel
theorem dX7_write_26 : decode cX7_write 26 = .ok (.bipush (-3), 2) := by decide +kernel
theorem dX7_write_28 : decode cX7_write 28 = .ok (.ireturn, 1) := by decide +kernel
theorem dX7_write_29 : decode cX7_write 29 = .ok (.aload_n 0, 1) := by decide +kernel
theorem dX7_write_30 : decode cX7_write 30 = .ok (.getfield 7, 3) := by decide +kernel
theorem dX7_write_33 : decode cX7_write 33 = .ok (.aload_n 0, 1) := by decide +kernel
theorem dX7_write_34 : decode cX7_write 34 = .ok (.getfield 159, 3) := by decide +kernel
theorem dX7_write_37 : decode cX7_write 37 = .ok (.iload_n 1, 1) := by decide +kernel
theorem dX7_write_38 : decode cX7_write 38 = .ok (.iastore, 1) := by decide +kernel
theorem dX7_write_39 : decode cX7_write 39 = .ok (.aload_n 0, 1) := by decide +kernel
theorem dX7_write_40 : decode cX7_write 40 = .ok (.dup, 1) := by decide +kernel
theorem dX7_write_41 : decode cX7_write 41 = .ok (.getfield 159, 3) := by decide +kernel
theorem dX7_write_44 : decode cX7_write 44 = .ok (.iconst 1, 1) := by decide +kernel
theorem dX7_write_45 : decode cX7_write 45 = .ok (.iadd, 1) := by decide +kernel
theorem dX7_write_46 : decode cX7_write 46 = .ok (.putfield 159, 3) := by decide +kernel
theorem dX7_write_49 : decode cX7_write 49 = .ok (.aload_n 0, 1) := by decide +kernel
theorem dX7_write_50 : decode cX7_write 50 = .ok (.getfield 159, 3) := by decide +kernel
theorem dX7_write_53 : decode cX7_write 53 = .ok (.ireturn, 1) := by decide +kernel
theorem dX7_wipe_0 : decode cX7_wipe 0 = .ok (.aload_n 0, 1) := by decide +kernel
theorem dX7_wipe_1 : decode cX7_wipe 1 = .ok (.getfield 159, 3) := by decide +kernel
theorem dX7_wipe_4 : decode cX7_wipe 4 = .ok (.istore_n 1, 1) := by decide +kernel
theorem dX7_wipe_5 : decode cX7_wipe 5 = .ok (.aload_n 0, 1) := by decide +kernel
theorem dX7_wipe_6 : decode cX7_wipe 6 = .ok (.iconst 0, 1) := by decide +kernel
theorem dX7_wipe_7 : decode cX7_wipe 7 = .ok (.putfield 159, 3) := by decide +kernel
theorem dX7_wipe_10 : decode cX7_wipe 10 = .ok (.iload_n 1, 1) := by decide +kernel
theorem dX7_wipe_11 : decode cX7_wipe 11 = .ok (.ireturn, 1) := by decide +kernel
theorem dX7_checked_0 : decode cX7_checked 0 = .ok (.iconst 0, 1) := by decide +kernel
theorem dX7_checked_1 : decode cX7_checked 1 = .ok (.istore_n 2, 1) := by decide +kernel
theorem dX7_checked_2 : decode cX7_checked 2 = .ok (.iload_n 1, 1) := by decide +kernel
theorem dX7_checked_3 : decode cX7_checked 3 = .ok (.iconst 1, 1) := by decide +kernel
theorem dX7_checked_4 : decode cX7_checked 4 = .ok (.isub, 1) := by decide +kernel
theorem dX7_checked_5 : decode cX7_checked 5 = .ok (.istore_n 3, 1) := by decide +kernel
theorem dX7_checked_6 : decode cX7_checked 6 = .ok (.iload_n 3, 1) := by decide +kernel
theorem dX7_checked_7 : decode cX7_checked 7 = .ok (.ifCond .lt 30, 3) := by decide +kernel
theorem dX7_checked_10 : decode cX7_checked 10 = .ok (.iload_n 2, 1) := by decide +kernel
theorem dX7_checked_11 : decode cX7_checked 11 = .ok (.iconst 1, 1) := by decide +kernel
theorem dX7_checked_12 : decode cX7_checked 12 = .ok (.ishl, 1) := by decide +kernel
theorem dX7_checked_13 : decode cX7_checked 13 = .ok (.bipush 127, 2) := by decide +kernel
theorem dX7_checked_15 : decode cX7_checked 15 = .ok (.iand, 1) := by decide +kernel
theorem dX7_checked_16 : decode cX7_checked 16 = .ok (.bipush 9, 2) := by decide +kernel
theorem dX7_checked_18 : decode cX7_checked 18 = .ok (.iload_n 0, 1) := by decide +kernel
theorem dX7_checked_19 : decode cX7_checked 19 = .ok (.iload_n 3, 1) := by decide +kernel
theorem dX7_checked_20 : decode cX7_checked 20 = .ok (.ishr, 1) := by decide +kernel
theorem dX7_checked_21 : decode cX7_checked 21 = .ok (.iconst 1, 1) := by decide +kernel
theorem dX7_checked_22 : decode cX7_checked 22 = .ok (.iand, 1) := by decide +kernel
theorem dX7_checked_23 : decode cX7_checked 23 = .ok (.iload_n 2, 1) := by decide +kernel
theorem dX7_checked_24 : decode cX7_checked 24 = .ok (.bipush 6, 2) := by decide +kernel
theorem dX7_checked_26 : decode cX7_checked 26 = .ok (.ishr, 1) := by decide +kernel
theorem dX7_checked_27 : decode cX7_checked 27 = .ok (.ixor, 1) := by decide +kernel
theorem dX7_checked_28 : decode cX7_checked 28 = .ok (.imul, 1) := by decide +kernel
theorem dX7_checked_29 : decode cX7_checked 29 = .ok (.ixor, 1) := by decide +kernel
theorem dX7_checked_30 : decode cX7_checked 30 = .ok (.istore_n 2, 1) := by decide +kernel
theorem dX7_checked_31 : decode cX7_checked 31 = .ok (.iinc 3 (-1), 3) := by decide +kernel
theorem dX7_checked_34 : decode cX7_checked 34 = .ok (.goto (-28), 3) := by decide +kernel
theorem dX7_checked_37 : decode cX7_checked 37 = .ok (.iload_n 2, 1) := by decide +kernel
theorem dX7_checked_38 : decode cX7_checked 38 = .ok (.ireturn, 1) := by decide +kernel
set_option maxRecDepth 20000 in
theorem ggX7_check_X7_in : GoodIn wsX7_check wsX7_in := goodIn_r _ [7] (by decide +kernel) (by decide +kernel)
set_option maxRecDepth 20000 in
theorem gX7_check_X7_in : GoodIn wsX7_check (va_wsS RX7 42 yX7_in wsX7_in) := goodIn_app (goodIn_of _ (by decide +kernel)) ggX7_check_X7_in
set_option maxRecDepth 20000 in
theorem ggX7_check_X7_checked : GoodIn wsX7_check wsX7_checked := goodIn_r _ [10] (by decide +kernel) (by decide +kernel)
set_option maxRecDepth 20000 in
theorem gX7_check_X7_checked : GoodIn wsX7_check (va_wsS RX7 165 yX7_checked wsX7_checked) := goodIn_app (goodIn_of _ (by decide +kernel)) ggX7_check_X7_checked
theorem dX7_check_0 : decode cX7_check 0 = .ok (.iload_n 1, 1) := by decide +kernel
theorem dX7_check_1 : decode cX7_check 1 = .ok (.i2l, 1) := by decide +kernel
theorem dX7_check_2 : decode cX7_check 2 = .ok (.lconst 0, 1) := by decide +kernel
theorem dX7_check_3 : decode cX7_check 3 = .ok (.ldc2_w 162, 3) := by decide +kernel
theorem dX7_check_6 : decode cX7_check 6 = .ok (.invokestatic 42, 3) := by decide +kernel
theorem dX7_check_9 : decode cX7_check 9 = .ok (.ifCond .eq 29, 3) := by decide +kernel
theorem dX7_check_12 : decode cX7_check 12 = .ok (.iload_n 2, 1) := by decide +kernel
theorem dX7_check_13 : decode cX7_check 13 = .ok (.i2l, 1) := by decide +kernel
theorem dX7_check_14 : decode cX7_check 14 = .ok (.lconst 0, 1) := by decide +kernel
theorem dX7_check_15 : decode cX7_check 15 = .ok (.ldc2_w 50, 3) := by decide +kernel
theorem dX7_check_18 : decode cX7_check 18 = .ok (.invokestatic 42, 3) := by decide +kernel
theorem dX7_check_21 : decode cX7_check 21 = .ok (.ifCond .eq 17, 3) := by decide +kernel
theorem dX7_check_24 : decode cX7_check 24 = .ok (.ldc 164, 2) := by decide +kernel
theorem dX7_check_26 : decode cX7_check 26 = .ok (.iload_n 1, 1) := by decide +kernel
theorem dX7_check_27 : decode cX7_check 27 = .ok (.imul, 1) := by decide +kernel
theorem dX7_check_28 : decode cX7_check 28 = .ok (.iload_n 2, 1) := by decide +kernel
theorem dX7_check_29 : decode cX7_check 29 = .ok (.iadd, 1) := by decide +kernel
theorem dX7_check_30 : decode cX7_check 30 = .ok (.bipush 22, 2) := by decide +kernel
theorem dX7_check_32 : decode cX7_check 32 = .ok (.invokestatic 165, 3) := by decide +kernel
theorem dX7_check_35 : decode cX7_check 35 = .ok (.goto 4, 3) := by decide +kernel
theorem dX7_check_38 : decode cX7_check 38 = .ok (.iconst (-1), 1) := by decide +kernel
theorem dX7_check_39 : decode cX7_check 39 = .ok (.ireturn, 1) := by decide +kernel
set_option maxRecDepth 20000 in
theorem ggX7_checkOf_X7_in : GoodIn wsX7_checkOf wsX7_in := goodIn_r _ [5] (by decide +kernel) (by decide +kernel)
set_option maxRecDepth 20000 in
theorem gX7_checkOf_X7_in : GoodIn wsX7_checkOf (va_wsS RX7 42 yX7_in wsX7_in) := goodIn_app (goodIn_of _ (by decide +kernel)) ggX7_checkOf_X7_in
set_option maxRecDepth 20000 in
theorem ggX7_checkOf_X7_checked : GoodIn wsX7_checkOf wsX7_checked := goodIn_r _ [8] (by decide +kernel) (by decide +kernel)
set_option maxRecDepth 20000 in
theorem gX7_checkOf_X7_checked : GoodIn wsX7_checkOf (va_wsS RX7 165 yX7_checked wsX7_checked) := goodIn_app (goodIn_of _ (by decide +kernel)) ggX7_checkOf_X7_checked
theorem dX7_checkOf_0 : decode cX7_checkOf 0 = .ok (.iload_n 1, 1) := by decide +kernel
theorem dX7_checkOf_1 : decode cX7_checkOf 1 = .ok (.i2l, 1) := by decide +kernel
theorem dX7_checkOf_2 : decode cX7_checkOf 2 = .ok (.lconst 0, 1) := by decide +kernel
theorem dX7_checkOf_3 : decode cX7_checkOf 3 = .ok (.ldc2_w 50, 3) := by decide +kernel
theorem dX7_checkOf_6 : decode cX7_checkOf 6 = .ok (.invokestatic 42, 3) := by decide +kernel
theorem dX7_checkOf_9 : decode cX7_checkOf 9 = .ok (.ifCond .eq 12, 3) := by decide +kernel
theorem dX7_checkOf_12 : decode cX7_checkOf 12 = .ok (.iload_n 1, 1) := by decide +kernel
theorem dX7_checkOf_13 : decode cX7_checkOf 13 = .ok (.bipush 16, 2) := by decide +kernel
theorem dX7_checkOf_15 : decode cX7_checkOf 15 = .ok (.invokestatic 165, 3) := by decide +kernel
theorem dX7_checkOf_18 : decode cX7_checkOf 18 = .ok (.goto 4, 3) := by decide +kernel
theorem dX7_checkOf_21 : decode cX7_checkOf 21 = .ok (.iconst (-1), 1) := by decide +kernel
theorem dX7_checkOf_22 : decode cX7_checkOf 22 = .ok (.ireturn, 1) := by decide +kernel
theorem dX7_isInWindow_0 : decode cX7_isInWindow 0 = .ok (.aload_n 0, 1) := by decide +kernel
theorem dX7_isInWindow_1 : decode cX7_isInWindow 1 = .ok (.getfield 97, 3) := by decide +kernel
theorem dX7_isInWindow_4 : decode cX7_isInWindow 4 = .ok (.iconst 3, 1) := by decide +kernel
theorem dX7_isInWindow_5 : decode cX7_isInWindow 5 = .ok (.isub, 1) := by decide +kernel
theorem dX7_isInWindow_6 : decode cX7_isInWindow 6 = .ok (.iconst 5, 1) := by decide +kernel
theorem dX7_isInWindow_7 : decode cX7_isInWindow 7 = .ok (.aload_n 0, 1) := by decide +kernel
theorem dX7_isInWindow_8 : decode cX7_isInWindow 8 = .ok (.getfield 94, 3) := by decide +kernel
theorem dX7_isInWindow_11 : decode cX7_isInWindow 11 = .ok (.imul, 1) := by decide +kernel
theorem dX7_isInWindow_12 : decode cX7_isInWindow 12 = .ok (.isub, 1) := by decide +kernel
theorem dX7_isInWindow_13 : decode cX7_isInWindow 13 = .ok (.aload_n 0, 1) := by decide +kernel
theorem dX7_isInWindow_14 : decode cX7_isInWindow 14 = .ok (.getfield 152, 3) := by decide +kernel
theorem dX7_isInWindow_17 : decode cX7_isInWindow 17 = .ok (.isub, 1) := by decide +kernel
theorem dX7_isInWindow_18 : decode cX7_isInWindow 18 = .ok (.bipush 48, 2) := by decide +kernel
theorem dX7_isInWindow_20 : decode cX7_isInWindow 20 = .ok (.iadd, 1) := by decide +kernel
theorem dX7_isInWindow_21 : decode cX7_isInWindow 21 = .ok (.bipush 16, 2) := by decide +kernel
theorem dX7_isInWindow_23 : decode cX7_isInWindow 23 = .ok (.irem, 1) := by decide +kernel
theorem dX7_isInWindow_24 : decode cX7_isInWindow 24 = .ok (.istore_n 1, 1) := by decide +kernel
theorem dX7_isInWindow_25 : decode cX7_isInWindow 25 = .ok (.iload_n 1, 1) := by decide +kernel
theorem dX7_isInWindow_26 : decode cX7_isInWindow 26 = .ok (.bipush 8, 2) := by decide +kernel
theorem dX7_isInWindow_28 : decode cX7_isInWindow 28 = .ok (.if_icmp .le 10, 3) := by decide +kernel
theorem dX7_isInWindow_31 : decode cX7_isInWindow 31 = .ok (.bipush 16, 2) := by decide +kernel
theorem dX7_isInWindow_33 : decode cX7_isInWindow 33 = .ok (.iload_n 1, 1) := by decide +kernel
theorem dX7_isInWindow_34 : decode cX7_isInWindow 34 = .ok (.isub, 1) := by decide +kernel
theorem dX7_isInWindow_35 : decode cX7_isInWindow 35 = .ok (.goto 4, 3) := by decide +kernel
theorem dX7_isInWindow_38 : decode cX7_isInWindow 38 = .ok (.iload_n 1, 1) := by decide +kernel
theorem dX7_isInWindow_39 : decode cX7_isInWindow 39 = .ok (.istore_n 2, 1) := by decide +kernel
theorem dX7_isInWindow_40 : decode cX7_isInWindow 40 = .ok (.iload_n 2, 1) := by decide +kernel
theorem dX7_isInWindow_41 : decode cX7_isInWindow 41 = .ok (.bipush 7, 2) := by decide +kernel
theorem dX7_isInWindow_43 : decode cX7_isInWindow 43 = .ok (.iconst 2, 1) := by decide +kernel
theorem dX7_isInWindow_44 : decode cX7_isInWindow 44 = .ok (.aload_n 0, 1) := by decide +kernel
theorem dX7_isInWindow_45 : decode cX7_isInWindow 45 = .ok (.getfield 94, 3) := by decide +kernel
theorem dX7_isInWindow_48 : decode cX7_isInWindow 48 = .ok (.imul, 1) := by decide +kernel
theorem dX7_isInWindow_49 : decode cX7_isInWindow 49 = .ok (.isub, 1) := by decide +kernel
theorem dX7_isInWindow_50 : decode cX7_isInWindow 50 = .ok (.if_icmp .gt 7, 3) := by decide +kernel
theorem dX7_isInWindow_53 : decode cX7_isInWindow 53 = .ok (.iconst 1, 1) := by decide +kernel
theorem dX7_isInWindow_54 : decode cX7_isInWindow 54 = .ok (.goto 4, 3) := by decide +kernel
theorem dX7_isInWindow_57 : decode cX7_isInWindow 57 = .ok (.iconst 0, 1) := by decide +kernel
theorem dX7_isInWindow_58 : decode cX7_isInWindow 58 = .ok (.ireturn, 1) := by decide +kernel
set_option maxRecDepth 20000 in
theorem ggX7_isOne_X7_isStarred : GoodIn wsX7_isOne wsX7_isStarred := goodIn_r _ [5, 6, 7, 8, 9, 4, 10] (by decide +kernel) (by decide +kernel)
set_option maxRecDepth 20000 in
theorem gX7_isOne_X7_isStarred : GoodIn wsX7_isOne (va_wsS RX7 169 yX7_isStarred wsX7_isStarred) := goodIn_app (goodIn_of _ (by decide +kernel)) ggX7_isOne_X7_isStarred
theorem dX7_isOne_0 : decode cX7_isOne 0 = .ok (.iload_n 1, 1) := by decide +kernel
theorem dX7_isOne_1 : decode cX7_isOne 1 = .ok (.lookupswitch 199 #[(0, 75), (1, 77), (2, 90), (3, 104), (7, 126), (12, 148), (13, 171), (42, 185)], 75) := by decide +kernel
theorem dX7_isOne_76 : decode cX7_isOne 76 = .ok (.iconst 1, 1) := by decide +kernel
theorem dX7_isOne_77 : decode cX7_isOne 77 = .ok (.ireturn, 1) := by decide +kernel
theorem dX7_isOne_78 : decode cX7_isOne 78 = .ok (.aload_n 0, 1) := by decide +kernel
theorem dX7_isOne_79 : decode cX7_isOne 79 = .ok (.getfield 85, 3) := by decide +kernel
theorem dX7_isOne_82 : decode cX7_isOne 82 = .ok (.ifCond .ne 7, 3) := by decide +kernel
theorem dX7_isOne_85 : decode cX7_isOne 85 = .ok (.iconst 1, 1) := by decide +kernel
theorem dX7_isOne_86 : decode cX7_isOne 86 = .ok (.goto 4, 3) := by decide +kernel
theorem dX7_isOne_89 : decode cX7_isOne 89 = .ok (.iconst 0, 1) := by decide +kernel
theorem dX7_isOne_90 : decode cX7_isOne 90 = .ok (.ireturn, 1) := by decide +kernel
theorem dX7_isOne_91 : decode cX7_isOne 91 = .ok (.aload_n 0, 1) := by decide +kernel
theorem dX7_isOne_92 : decode cX7_isOne 92 = .ok (.getfield 85, 3) := by decide +kernel
theorem dX7_isOne_95 : decode cX7_isOne 95 = .ok (.iconst 1, 1) := by decide +kernel
theorem dX7_isOne_96 : decode cX7_isOne 96 = .ok (.if_icmp .ne 7, 3) := by decide +kernel
theorem dX7_isOne_99 : decode cX7_isOne 99 = .ok (.iconst 1, 1) := by decide +kernel
theorem dX7_isOne_100 : decode cX7_isOne 100 = .ok (.goto 4, 3) := by decide +kernel
theorem dX7_isOne_103 : decode cX7_isOne 103 = .ok (.iconst 0, 1) := by decide +kernel
theorem dX7_isOne_104 : decode cX7_isOne 104 = .ok (.ireturn, 1) := by decide +kernel
theorem dX7_isOne_105 : decode cX7_isOne 105 = .ok (.aload_n 0, 1) := by decide +kernel
theorem dX7_isOne_106 : decode cX7_isOne 106 = .ok (.getfield 85, 3) := by decide +kernel
theorem dX7_isOne_109 : decode cX7_isOne 109 = .ok (.iconst 2, 1) := by decide +kernel
theorem dX7_isOne_110 : decode cX7_isOne 110 = .ok (.if_icmp .eq 11, 3) := by decide +kernel
theorem dX7_isOne_113 : decode cX7_isOne 113 = .ok (.aload_n 0, 1) := by decide +kernel
theorem dX7_isOne_114 : decode cX7_isOne 114 = .ok (.getfield 85, 3) := by decide +kernel
theorem dX7_isOne_117 : decode cX7_isOne 117 = .ok (.iconst 3, 1) := by decide +kernel
theorem dX7_isOne_118 : decode cX7_isOne 118 = .ok (.if_icmp .ne 7, 3) := by decide +kernel
theorem dX7_isOne_121 : decode cX7_isOne 121 = .ok (.iconst 1, 1) := by decide +kernel
theorem dX7_isOne_122 : decode cX7_isOne 122 = .ok (.goto 4, 3) := by decide +kernel
theorem dX7_isOne_125 : decode cX7_isOne 125 = .ok (.iconst 0, 1) := by decide +kernel
theorem dX7_isOne_126 : decode cX7_isOne 126 = .ok (.ireturn, 1) := by decide +kernel
theorem dX7_isOne_127 : decode cX7_isOne 127 = .ok (.aload_n 0, 1) := by decide +kernel
theorem dX7_isOne_128 : decode cX7_isOne 128 = .ok (.getfield 85, 3) := by decide +kernel
theorem dX7_isOne_131 : decode cX7_isOne 131 = .ok (.iconst 3, 1) := by decide +kernel
theorem dX7_isOne_132 : decode cX7_isOne 132 = .ok (.if_icmp .eq 11, 3) := by decide +kernel
theorem dX7_isOne_135 : decode cX7_isOne 135 = .ok (.aload_n 0, 1) := by decide +kernel
theorem dX7_isOne_136 : decode cX7_isOne 136 = .ok (.getfield 85, 3) := by decide +kernel
theorem dX7_isOne_139 : decode cX7_isOne 139 = .ok (.iconst 4, 1) := by decide +kernel
theorem dX7_isOne_140 : decode cX7_isOne 140 = .ok (.if_icmp .ne 7, 3) := by decide +kernel
theorem dX7_isOne_143 : decode cX7_isOne 143 = .ok (.iconst 1, 1) := by decide +kernel
theorem dX7_isOne_144 : decode cX7_isOne 144 = .ok (.goto 4, 3) := by decide +kernel
theorem dX7_isOne_147 : decode cX7_isOne 147 = .ok (.iconst 0, 1) := by decide +kernel
theorem dX7_isOne_148 : decode cX7_isOne 148 = .ok (.ireturn, 1) := by decide +kernel
theorem dX7_isOne_149 : decode cX7_isOne 149 = .ok (.aload_n 0, 1) := by decide +kernel
theorem dX7_isOne_150 : decode cX7_isOne 150 = .ok (.getfield 85, 3) := by decide +kernel
theorem dX7_isOne_153 : decode cX7_isOne 153 = .ok (.iconst 5, 1) := by decide +kernel
theorem dX7_isOne_154 : decode cX7_isOne 154 = .ok (.if_icmp .eq 12, 3) := by decide +kernel
theorem dX7_isOne_157 : decode cX7_isOne 157 = .ok (.aload_n 0, 1) := by decide +kernel
theorem dX7_isOne_158 : decode cX7_isOne 158 = .ok (.getfield 85, 3) := by decide +kernel
theorem dX7_isOne_161 : decode cX7_isOne 161 = .ok (.bipush 6, 2) := by decide +kernel
theorem dX7_isOne_163 : decode cX7_isOne 163 = .ok (.if_icmp .ne 7, 3) := by decide +kernel
theorem dX7_isOne_166 : decode cX7_isOne 166 = .ok (.iconst 1, 1) := by decide +kernel
theorem dX7_isOne_167 : decode cX7_isOne 167 = .ok (.goto 4, 3) := by decide +kernel
theorem dX7_isOne_170 : decode cX7_isOne 170 = .ok (.iconst 0, 1) := by decide +kernel
theorem dX7_isOne_171 : decode cX7_isOne 171 = .ok (.ireturn, 1) := by decide +kernel
theorem dX7_isOne_172 : decode cX7_isOne 172 = .ok (.aload_n 0, 1) := by decide +kernel
theorem dX7_isOne_173 : decode cX7_isOne 173 = .ok (.getfield 85, 3) := by decide +kernel
theorem dX7_isOne_176 : decode cX7_isOne 176 = .ok (.iconst 3, 1) := by decide +kernel
theorem dX7_isOne_177 : decode cX7_isOne 177 = .ok (.if_icmp .lt 7, 3) := by decide +kernel
theorem dX7_isOne_180 : decode cX7_isOne 180 = .ok (.iconst 1, 1) := by decide +kernel
theorem dX7_isOne_181 : decode cX7_isOne 181 = .ok (.goto 4, 3) := by decide +kernel
theorem dX7_isOne_184 : decode cX7_isOne 184 = .ok (.iconst 0, 1) := by decide +kernel
theorem dX7_isOne_185 : decode cX7_isOne 185 = .ok (.ireturn, 1) := by decide +kernel
theorem dX7_isOne_186 : decode cX7_isOne 186 = .ok (.aload_n 0, 1) := by decide +kernel
theorem dX7_isOne_187 : decode cX7_isOne 187 = .ok (.getfield 85, 3) := by decide +kernel
theorem dX7_isOne_190 : decode cX7_isOne 190 = .ok (.iconst 4, 1) := by decide +kernel
theorem dX7_isOne_191 : decode cX7_isOne 191 = .ok (.if_icmp .ne 7, 3) := by decide +kernel
theorem dX7_isOne_194 : decode cX7_isOne 194 = .ok (.iconst 1, 1) := by decide +kernel
theorem dX7_isOne_195 : decode cX7_isOne 195 = .ok (.goto 4, 3) := by decide +kernel
theorem dX7_isOne_198 : decode cX7_isOne 198 = .ok (.iconst 0, 1) := by decide +kernel
theorem dX7_isOne_199 : decode cX7_isOne 199 = .ok (.ireturn, 1) := by decide +kernel
theorem dX7_isOne_200 : decode cX7_isOne 200 = .ok (.iload_n 1, 1) := by decide +kernel
theorem dX7_isOne_201 : decode cX7_isOne 201 = .ok (.invokestatic 169, 3) := by decide +kernel
theorem dX7_isOne_204 : decode cX7_isOne 204 = .ok (.ifCond .eq 15, 3) := by decide +kernel
theorem dX7_isOne_207 : decode cX7_isOne 207 = .ok (.aload_n 0, 1) := by decide +kernel
theorem dX7_isOne_208 : decode cX7_isOne 208 = .ok (.getfield 85, 3) := by decide +kernel
theorem dX7_isOne_211 : decode cX7_isOne 211 = .ok (.iconst 4, 1) := by decide +kernel
theorem dX7_isOne_212 : decode cX7_isOne 212 = .ok (.if_icmp .ne 7, 3) := by decide +kernel
theorem dX7_isOne_215 : decode cX7_isOne 215 = .ok (.iconst 1, 1) := by decide +kernel
theorem dX7_isOne_216 : decode cX7_isOne 216 = .ok (.goto 4, 3) := by decide +kernel
theorem dX7_isOne_219 : decode cX7_isOne 219 = .ok (.iconst 0, 1) := by decide +kernel
theorem dX7_isOne_220 : decode cX7_isOne 220 = .ok (.ireturn, 1) := by decide +kernel
set_option maxRecDepth 20000 in
theorem ggX7_isStarred_X7_in : GoodIn wsX7_isStarred wsX7_in := goodIn_r _ [6] (by decide +kernel) (by decide +kernel)
set_option maxRecDepth 20000 in
theorem gX7_isStarred_X7_in : GoodIn wsX7_isStarred (va_wsS RX7 42 yX7_in wsX7_in) := goodIn_app (goodIn_of _ (by decide +kernel)) ggX7_isStarred_X7_in
theorem dX7_isStarred_0 : decode cX7_isStarred 0 = .ok (.iload_n 0, 1) := by decide +kernel
theorem dX7_isStarred_1 : decode cX7_isStarred 1 = .ok (.bipush 6, 2) := by decide +kernel
theorem dX7_isStarred_3 : decode cX7_isStarred 3 = .ok (.if_icmp .eq 47, 3) := by decide +kernel
theorem dX7_isStarred_6 : decode cX7_isStarred 6 = .ok (.iload_n 0, 1) := by decide +kernel
theorem dX7_isStarred_7 : decode cX7_isStarred 7 = .ok (.bipush 17, 2) := by decide +kernel
theorem dX7_isStarred_9 : decode cX7_isStarred 9 = .ok (.if_icmp .eq 41, 3) := by decide +kernel
theorem dX7_isStarred_12 : decode cX7_isStarred 12 = .ok (.iload_n 0, 1) := by decide +kernel
theorem dX7_isStarred_13 : decode cX7_isStarred 13 = .ok (.bipush 18, 2) := by decide +kernel
theorem dX7_isStarred_15 : decode cX7_isStarred 15 = .ok (.if_icmp .eq 35, 3) := by decide +kernel
theorem dX7_isStarred_18 : decode cX7_isStarred 18 = .ok (.iload_n 0, 1) := by decide +kernel
theorem dX7_isStarred_19 : decode cX7_isStarred 19 = .ok (.i2l, 1) := by decide +kernel
theorem dX7_isStarred_20 : decode cX7_isStarred 20 = .ok (.ldc2_w 173, 3) := by decide +kernel
theorem dX7_isStarred_23 : decode cX7_isStarred 23 = .ok (.ldc2_w 175, 3) := by decide +kernel
theorem dX7_isStarred_26 : decode cX7_isStarred 26 = .ok (.invokestatic 42, 3) := by decide +kernel
theorem dX7_isStarred_29 : decode cX7_isStarred 29 = .ok (.ifCond .ne 21, 3) := by decide +kernel
theorem dX7_isStarred_32 : decode cX7_isStarred 32 = .ok (.iload_n 0, 1) := by decide +kernel
theorem dX7_isStarred_33 : decode cX7_isStarred 33 = .ok (.bipush 32, 2) := by decide +kernel
theorem dX7_isStarred_35 : decode cX7_isStarred 35 = .ok (.if_icmp .eq 15, 3) := by decide +kernel
theorem dX7_isStarred_38 : decode cX7_isStarred 38 = .ok (.iload_n 0, 1) := by decide +kernel
theorem dX7_isStarred_39 : decode cX7_isStarred 39 = .ok (.bipush 33, 2) := by decide +kernel
theorem dX7_isStarred_41 : decode cX7_isStarred 41 = .ok (.if_icmp .eq 9, 3) := by decide +kernel
theorem dX7_isStarred_44 : decode cX7_isStarred 44 = .ok (.iload_n 0, 1) := by decide +kernel
theorem dX7_isStarred_45 : decode cX7_isStarred 45 = .ok (.bipush 38, 2) := by decide +kernel
theorem dX7_isStarred_47 : decode cX7_isStarred 47 = .ok (.if_icmp .ne 7, 3) := by decide +kernel
theorem dX7_isStarred_50 : decode cX7_isStarred 50 = .ok (.iconst 1, 1) := by decide +kernel
theorem dX7_isStarred_51 : decode cX7_isStarred 51 = .ok (.goto 4, 3) := by decide +kernel
theorem dX7_isStarred_54 : decode cX7_isStarred 54 = .ok (.iconst 0, 1) := by decide +kernel
theorem dX7_isStarred_55 : decode cX7_isStarred 55 = .ok (.ireturn, 1) := by decide +kernel
theorem dX7_noting_0 : decode cX7_noting 0 = .ok (.aload_n 0, 1) := by decide +kernel
theorem dX7_noting_1 : decode cX7_noting 1 = .ok (.dup, 1) := by decide +kernel
theorem dX7_noting_2 : decode cX7_noting 2 = .ok (.getfield 103, 3) := by decide +kernel
theorem dX7_noting_5 : decode cX7_noting 5 = .ok (.iload_n 1, 1) := by decide +kernel
theorem dX7_noting_6 : decode cX7_noting 6 = .ok (.ior, 1) := by decide +kernel
theorem dX7_noting_7 : decode cX7_noting 7 = .ok (.putfield 103, 3) := by decide +kernel
theorem dX7_noting_10 : decode cX7_noting 10 = .ok (.bipush (-2), 2) := by decide +kernel
theorem dX7_noting_12 : decode cX7_noting 12 = .ok (.ireturn, 1) := by decide +kernel
set_option maxRecDepth 20000 in
theorem ggX7_send_X7_in : GoodIn wsX7_send wsX7_in := goodIn_r _ [11] (by decide +kernel) (by decide +kernel)
set_option maxRecDepth 20000 in
theorem gX7_send_X7_in : GoodIn wsX7_send (va_wsS RX7 42 yX7_in wsX7_in) := goodIn_app (goodIn_of _ (by decide +kernel)) ggX7_send_X7_in
set_option maxRecDepth 20000 in
theorem ggX7_send_X7_check : GoodIn wsX7_send wsX7_check := goodIn_r _ [15, 1, 2, 16, 8, 9, 10, 11, 17, 18, 19] (by decide +kernel) (by decide +kernel)
set_option maxRecDepth 20000 in
theorem gX7_send_X7_check : GoodIn wsX7_send (wsV RX7 179 RX7 yX7_check wsX7_check) := goodIn_app (goodIn_of _ (by decide +kernel)) ggX7_send_X7_check
set_option maxRecDepth 20000 in
theorem ggX7_send_X7_isOne : GoodIn wsX7_send wsX7_isOne := goodIn_r _ [23, 24, 25, 26, 10, 27, 28, 29, 8, 9, 11, 146, 147, 148, 149, 150, 151, 152, 153, 154, 155, 156, 157, 158, 159, 160, 161, 162, 163, 164, 165, 166, 167, 168, 169, 170, 171, 172, 173, 174, 175, 176, 177, 178, 179, 180, 181, 182, 183] (by decide +kernel) (by decide +kernel)
set_option maxRecDepth 20000 in
theorem gX7_send_X7_isOne : GoodIn wsX7_send (wsV RX7 182 RX7 yX7_isOne wsX7_isOne) := goodIn_app (goodIn_of _ (by decide +kernel)) ggX7_send_X7_isOne
set_option maxRecDepth 20000 in
theorem ggX7_send_X7_isStarred : GoodIn wsX7_send wsX7_isStarred := goodIn_r _ [27, 28, 29, 8, 9, 10, 11] (by decide +kernel) (by decide +kernel)
set_option maxRecDepth 20000 in
theorem gX7_send_X7_isStarred : GoodIn wsX7_send (va_wsS RX7 169 yX7_isStarred wsX7_isStarred) := goodIn_app (goodIn_of _ (by decide +kernel)) ggX7_send_X7_isStarred
set_option maxRecDepth 20000 in
theorem ggX7_send_X7_first : GoodIn wsX7_send wsX7_first := goodIn_r _ [33, 34, 35, 24, 36, 37, 38, 39, 40, 41, 42, 10, 43, 44, 45, 46, 47, 48, 49, 50, 51, 52, 53, 54, 55, 56, 57, 58, 59, 60, 61, 62, 63, 64, 65, 66, 67, 68, 69, 70, 71, 72, 73, 74, 6, 5, 75, 7, 76, 77, 78, 79, 80, 81, 82, 83, 84, 85, 86, 87, 88, 89, 90, 91, 92, 93, 94, 146, 147, 148, 149, 150, 151, 152, 153, 154, 155, 156, 157, 158, 159, 160, 161, 162, 163, 164, 165, 166, 167, 168, 169, 170, 171, 172, 173, 174, 175, 176, 177, 178, 179, 180, 181, 182, 183] (by decide +kernel) (by decide +kernel)
set_option maxRecDepth 20000 in
theorem gX7_send_X7_first : GoodIn wsX7_send (wsV RX7 185 RX7 yX7_first wsX7_first) := goodIn_app (goodIn_of _ (by decide +kernel)) ggX7_send_X7_first
set_option maxRecDepth 20000 in
theorem ggX7_send_X7_streams : GoodIn wsX7_send wsX7_streams := goodIn_r _ [98, 73, 99, 75, 100, 101, 102, 10, 103, 38, 104, 105, 106, 107, 108, 68, 24, 76, 77, 78, 109, 110, 111, 112, 5, 146, 147, 148, 149, 150, 151, 152, 153, 154, 155, 156, 157, 158, 159, 160, 161, 162, 163, 164, 165, 166, 167, 168, 169, 170, 171, 172, 173, 174, 175, 176, 177, 178, 179, 180, 181, 182, 183] (by decide +kernel) (by decide +kernel)
set_option maxRecDepth 20000 in
theorem gX7_send_X7_streams : GoodIn wsX7_send (wsV RX7 188 RX7 yX7_streams wsX7_streams) := goodIn_app (goodIn_of _ (by decide +kernel)) ggX7_send_X7_streams
set_option maxRecDepth 20000 in
theorem ggX7_send_X7_erases : GoodIn wsX7_send wsX7_erases := goodIn_r _ [116, 68, 117, 7, 67, 118, 109, 110, 111, 10, 112, 5, 119, 120, 121, 122, 123, 124, 125, 126, 49, 47, 48, 24, 127, 128, 129, 130, 6, 74, 131, 132, 133, 134, 135, 136, 137, 8, 9, 11, 138, 139, 140, 141, 142, 143, 144, 145, 146, 147, 148, 149, 150, 151, 152, 153, 154, 155, 156, 157, 158, 159, 160, 161, 162, 163, 164, 165, 166, 167, 168, 169, 170, 171, 172, 173, 174, 175, 176, 177, 178, 179, 180, 181, 182, 183] (by decide +kernel) (by decide +kernel)
set_option maxRecDepth 20000 in
theorem gX7_send_X7_erases : GoodIn wsX7_send (wsV RX7 191 RX7 yX7_erases wsX7_erases) := goodIn_app (goodIn_of _ (by decide +kernel)) ggX7_send_X7_erases
theorem dX7_send_0 : decode cX7_send 0 = .ok (.iload_n 1, 1) := by decide +kernel
theorem dX7_send_1 : decode cX7_send 1 = .ok (.i2l, 1) := by decide +kernel
theorem dX7_send_2 : decode cX7_send 2 = .ok (.lconst 0, 1) := by decide +kernel
theorem dX7_send_3 : decode cX7_send 3 = .ok (.ldc2_w 162, 3) := by decide +kernel
theorem dX7_send_6 : decode cX7_send 6 = .ok (.invokestatic 42, 3) := by decide +kernel
theorem dX7_send_9 : decode cX7_send 9 = .ok (.ifCond .eq 27, 3) := by decide +kernel
theorem dX7_send_12 : decode cX7_send 12 = .ok (.iload_n 2, 1) := by decide +kernel
theorem dX7_send_13 : decode cX7_send 13 = .ok (.i2l, 1) := by decide +kernel
theorem dX7_send_14 : decode cX7_send 14 = .ok (.lconst 0, 1) := by decide +kernel
theorem dX7_send_15 : decode cX7_send 15 = .ok (.ldc2_w 50, 3) := by decide +kernel
theorem dX7_send_18 : decode cX7_send 18 = .ok (.invokestatic 42, 3) := by decide +kernel
theorem dX7_send_21 : decode cX7_send 21 = .ok (.ifCond .eq 15, 3) := by decide +kernel
theorem dX7_send_24 : decode cX7_send 24 = .ok (.iload_n 3, 1) := by decide +kernel
theorem dX7_send_25 : decode cX7_send 25 = .ok (.i2l, 1) := by decide +kernel
theorem dX7_send_26 : decode cX7_send 26 = .ok (.lconst 0, 1) := by decide +kernel
theorem dX7_send_27 : decode cX7_send 27 = .ok (.ldc2_w 177, 3) := by decide +kernel
theorem dX7_send_30 : decode cX7_send 30 = .ok (.invokestatic 42, 3) := by decide +kernel
theorem dX7_send_33 : decode cX7_send 33 = .ok (.ifCond .ne 5, 3) := by decide +kernel
theorem dX7_send_36 : decode cX7_send 36 = .ok (.iconst (-1), 1) := by decide +kernel
theorem dX7_send_37 : decode cX7_send 37 = .ok (.ireturn, 1) := by decide +kernel
theorem dX7_send_38 : decode cX7_send 38 = .ok (.aload_n 0, 1) := by decide +kernel
theorem dX7_send_39 : decode cX7_send 39 = .ok (.getfield 78, 3) := by decide +kernel
theorem dX7_send_42 : decode cX7_send 42 = .ok (.ifCond .ne 6, 3) := by decide +kernel
theorem dX7_send_45 : decode cX7_send 45 = .ok (.bipush (-4), 2) := by decide +kernel
theorem dX7_send_47 : decode cX7_send 47 = .ok (.ireturn, 1) := by decide +kernel
theorem dX7_send_48 : decode cX7_send 48 = .ok (.iload_n 3, 1) := by decide +kernel
theorem dX7_send_49 : decode cX7_send 49 = .ok (.aload_n 0, 1) := by decide +kernel
theorem dX7_send_50 : decode cX7_send 50 = .ok (.iload_n 1, 1) := by decide +kernel
theorem dX7_send_51 : decode cX7_send 51 = .ok (.iload_n 2, 1) := by decide +kernel
theorem dX7_send_52 : decode cX7_send 52 = .ok (.invokevirtual 179, 3) := by decide +kernel
theorem dX7_send_55 : decode cX7_send 55 = .ok (.if_icmp .eq 16, 3) := by decide +kernel
theorem dX7_send_58 : decode cX7_send 58 = .ok (.aload_n 0, 1) := by decide +kernel
theorem dX7_send_59 : decode cX7_send 59 = .ok (.dup, 1) := by decide +kernel
theorem dX7_send_60 : decode cX7_send 60 = .ok (.getfield 103, 3) := by decide +kernel
theorem dX7_send_63 : decode cX7_send 63 = .ok (.iconst 1, 1) := by decide +kernel
theorem dX7_send_64 : decode cX7_send 64 = .ok (.ior, 1) := by decide +kernel
theorem dX7_send_65 : decode cX7_send 65 = .ok (.putfield 103, 3) := by decide +kernel
theorem dX7_send_68 : decode cX7_send 68 = .ok (.bipush (-4), 2) := by decide +kernel
theorem dX7_send_70 : decode cX7_send 70 = .ok (.ireturn, 1) := by decide +kernel
theorem dX7_send_71 : decode cX7_send 71 = .ok (.aload_n 0, 1) := by decide +kernel
theorem dX7_send_72 : decode cX7_send 72 = .ok (.iload_n 1, 1) := by decide +kernel
theorem dX7_send_73 : decode cX7_send 73 = .ok (.invokevirtual 182, 3) := by decide +kernel
theorem dX7_send_76 : decode cX7_send 76 = .ok (.ifCond .eq 17, 3) := by decide +kernel
theorem dX7_send_79 : decode cX7_send 79 = .ok (.aload_n 0, 1) := by decide +kernel
theorem dX7_send_80 : decode cX7_send 80 = .ok (.getfield 100, 3) := by decide +kernel
theorem dX7_send_83 : decode cX7_send 83 = .ok (.ifCond .eq 23, 3) := by decide +kernel
theorem dX7_send_86 : decode cX7_send 86 = .ok (.iload_n 1, 1) := by decide +kernel
theorem dX7_send_87 : decode cX7_send 87 = .ok (.invokestatic 169, 3) := by decide +kernel
theorem dX7_send_90 : decode cX7_send 90 = .ok (.ifCond .eq 16, 3) := by decide +kernel
theorem dX7_send_93 : decode cX7_send 93 = .ok (.aload_n 0, 1) := by decide +kernel
theorem dX7_send_94 : decode cX7_send 94 = .ok (.dup, 1) := by decide +kernel
theorem dX7_send_95 : decode cX7_send 95 = .ok (.getfield 103, 3) := by decide +kernel
theorem dX7_send_98 : decode cX7_send 98 = .ok (.iconst 2, 1) := by decide +kernel
theorem dX7_send_99 : decode cX7_send 99 = .ok (.ior, 1) := by decide +kernel
theorem dX7_send_100 : decode cX7_send 100 = .ok (.putfield 103, 3) := by decide +kernel
theorem dX7_send_103 : decode cX7_send 103 = .ok (.bipush (-4), 2) := by decide +kernel
theorem dX7_send_105 : decode cX7_send 105 = .ok (.ireturn, 1) := by decide +kernel
theorem dX7_send_106 : decode cX7_send 106 = .ok (.aload_n 0, 1) := by decide +kernel
theorem dX7_send_107 : decode cX7_send 107 = .ok (.getfield 121, 3) := by decide +kernel
theorem dX7_send_110 : decode cX7_send 110 = .ok (.ifCond .le 53, 3) := by decide +kernel
theorem dX7_send_113 : decode cX7_send 113 = .ok (.iload_n 1, 1) := by decide +kernel
theorem dX7_send_114 : decode cX7_send 114 = .ok (.bipush 13, 2) := by decide +kernel
theorem dX7_send_116 : decode cX7_send 116 = .ok (.if_icmp .eq 47, 3) := by decide +kernel
theorem dX7_send_119 : decode cX7_send 119 = .ok (.iload_n 1, 1) := by decide +kernel
theorem dX7_send_120 : decode cX7_send 120 = .ok (.bipush 33, 2) := by decide +kernel
theorem dX7_send_122 : decode cX7_send 122 = .ok (.if_icmp .ne 11, 3) := by decide +kernel
theorem dX7_send_125 : decode cX7_send 125 = .ok (.aload_n 0, 1) := by decide +kernel
theorem dX7_send_126 : decode cX7_send 126 = .ok (.getfield 121, 3) := by decide +kernel
theorem dX7_send_129 : decode cX7_send 129 = .ok (.iconst 1, 1) := by decide +kernel
theorem dX7_send_130 : decode cX7_send 130 = .ok (.if_icmp .eq 33, 3) := by decide +kernel
theorem dX7_send_133 : decode cX7_send 133 = .ok (.iload_n 1, 1) := by decide +kernel
theorem dX7_send_134 : decode cX7_send 134 = .ok (.bipush 38, 2) := by decide +kernel
theorem dX7_send_136 : decode cX7_send 136 = .ok (.if_icmp .ne 11, 3) := by decide +kernel
theorem dX7_send_139 : decode cX7_send 139 = .ok (.aload_n 0, 1) := by decide +kernel
theorem dX7_send_140 : decode cX7_send 140 = .ok (.getfield 121, 3) := by decide +kernel
theorem dX7_send_143 : decode cX7_send 143 = .ok (.iconst 2, 1) := by decide +kernel
theorem dX7_send_144 : decode cX7_send 144 = .ok (.if_icmp .eq 19, 3) := by decide +kernel
theorem dX7_send_147 : decode cX7_send 147 = .ok (.aload_n 0, 1) := by decide +kernel
theorem dX7_send_148 : decode cX7_send 148 = .ok (.iconst 0, 1) := by decide +kernel
theorem dX7_send_149 : decode cX7_send 149 = .ok (.putfield 121, 3) := by decide +kernel
theorem dX7_send_152 : decode cX7_send 152 = .ok (.aload_n 0, 1) := by decide +kernel
theorem dX7_send_153 : decode cX7_send 153 = .ok (.dup, 1) := by decide +kernel
theorem dX7_send_154 : decode cX7_send 154 = .ok (.getfield 103, 3) := by decide +kernel
theorem dX7_send_157 : decode cX7_send 157 = .ok (.bipush 8, 2) := by decide +kernel
theorem dX7_send_159 : decode cX7_send 159 = .ok (.ior, 1) := by decide +kernel
theorem dX7_send_160 : decode cX7_send 160 = .ok (.putfield 103, 3) := by decide +kernel
theorem dX7_send_163 : decode cX7_send 163 = .ok (.iload_n 1, 1) := by decide +kernel
theorem dX7_send_164 : decode cX7_send 164 = .ok (.bipush 16, 2) := by decide +kernel
theorem dX7_send_166 : decode cX7_send 166 = .ok (.if_icmp .ge 12, 3) := by decide +kernel
theorem dX7_send_169 : decode cX7_send 169 = .ok (.aload_n 0, 1) := by decide +kernel
theorem dX7_send_170 : decode cX7_send 170 = .ok (.iload_n 1, 1) := by decide +kernel
theorem dX7_send_171 : decode cX7_send 171 = .ok (.iload_n 2, 1) := by decide +kernel
theorem dX7_send_172 : decode cX7_send 172 = .ok (.invokevirtual 185, 3) := by decide +kernel
theorem dX7_send_175 : decode cX7_send 175 = .ok (.goto 24, 3) := by decide +kernel
theorem dX7_send_178 : decode cX7_send 178 = .ok (.iload_n 1, 1) := by decide +kernel
theorem dX7_send_179 : decode cX7_send 179 = .ok (.bipush 32, 2) := by decide +kernel
theorem dX7_send_181 : decode cX7_send 181 = .ok (.if_icmp .ge 12, 3) := by decide +kernel
theorem dX7_send_184 : decode cX7_send 184 = .ok (.aload_n 0, 1) := by decide +kernel
theorem dX7_send_185 : decode cX7_send 185 = .ok (.iload_n 1, 1) := by decide +kernel
theorem dX7_send_186 : decode cX7_send 186 = .ok (.iload_n 2, 1) := by decide +kernel
theorem dX7_send_187 : decode cX7_send 187 = .ok (.invokevirtual 188, 3) := by decide +kernel
theorem dX7_send_190 : decode cX7_send 190 = .ok (.goto 9, 3) := by decide +kernel
theorem dX7_send_193 : decode cX7_send 193 = .ok (.aload_n 0, 1) := by decide +kernel
theorem dX7_send_194 : decode cX7_send 194 = .ok (.iload_n 1, 1) := by decide +kernel
theorem dX7_send_195 : decode cX7_send 195 = .ok (.iload_n 2, 1) := by decide +kernel
theorem dX7_send_196 : decode cX7_send 196 = .ok (.invokevirtual 191, 3) := by decide +kernel
theorem dX7_send_199 : decode cX7_send 199 = .ok (.ireturn, 1) := by decide +kernel
set_option maxRecDepth 20000 in
theorem ggX7_tell_X7_in : GoodIn wsX7_tell wsX7_in := goodIn_r _ [6] (by decide +kernel) (by decide +kernel)
set_option maxRecDepth 20000 in
theorem gX7_tell_X7_in : GoodIn wsX7_tell (va_wsS RX7 42 yX7_in wsX7_in) := goodIn_app (goodIn_of _ (by decide +kernel)) ggX7_tell_X7_in
set_option maxRecDepth 20000 in
theorem ggX7_tell_X7_check : GoodIn wsX7_tell wsX7_check := goodIn_r _ [10, 1, 2, 11, 3, 4, 5, 6, 12, 13, 14] (by decide +kernel) (by decide +kernel)
set_option maxRecDepth 20000 in
theorem gX7_tell_X7_check : GoodIn wsX7_tell (wsV RX7 179 RX7 yX7_check wsX7_check) := goodIn_app (goodIn_of _ (by decide +kernel)) ggX7_tell_X7_check
set_option maxRecDepth 20000 in
theorem ggX7_tell_X7_send : GoodIn wsX7_tell wsX7_send := goodIn_r _ [18, 1, 2, 19, 20, 21, 22, 23, 3, 4, 5, 6, 7, 8, 9, 10, 11, 12, 13, 14, 24, 25, 26, 27, 28, 29, 30, 31, 32, 33, 34, 35, 36, 37, 38, 39, 40, 41, 42, 43, 44, 45, 46, 47, 48, 49, 50, 51, 52, 53, 54, 55, 56, 57, 58, 59, 60, 61, 62, 63, 64, 65, 66, 67, 68, 69, 70, 71, 72, 73, 74, 75, 76, 77, 78, 79, 80, 81, 82, 83, 84, 85, 86, 87, 88, 89, 90, 91, 92, 93, 94, 95, 96, 97, 98, 99, 100, 101, 102, 103, 104, 105, 106, 107, 108, 109, 110, 111, 112, 113, 114, 115, 116, 117, 118, 119, 120, 121, 122, 123, 124, 125, 126, 127, 128, 129, 130, 131, 132, 133, 134, 135, 136, 137, 138, 139, 140, 141, 142, 143, 144, 145, 146, 147, 148, 149, 150, 151, 152, 153, 154, 155, 156, 157, 158, 159, 160, 161, 162, 163, 164, 165, 166, 167, 168, 169, 170, 171, 172, 173, 174, 175, 176, 177, 178, 179, 180, 181, 182, 183, 184, 185, 186, 187] (by decide +kernel) (by decide +kernel)
set_option maxRecDepth 20000 in
theorem gX7_tell_X7_send : GoodIn wsX7_tell (wsV RX7 194 RX7 yX7_send wsX7_send) := goodIn_app (goodIn_of _ (by decide +kernel)) ggX7_tell_X7_send
theorem dX7_tell_0 : decode cX7_tell 0 = .ok (.iload_n 1, 1) := by decide +kernel
theorem dX7_tell_1 : decode cX7_tell 1 = .ok (.i2l, 1) := by decide +kernel
theorem dX7_tell_2 : decode cX7_tell 2 = .ok (.lconst 0, 1) := by decide +kernel
theorem dX7_tell_3 : decode cX7_tell 3 = .ok (.ldc2_w 162, 3) := by decide +kernel
theorem dX7_tell_6 : decode cX7_tell 6 = .ok (.invokestatic 42, 3) := by decide +kernel
theorem dX7_tell_9 : decode cX7_tell 9 = .ok (.ifCond .eq 30, 3) := by decide +kernel
theorem dX7_tell_12 : decode cX7_tell 12 = .ok (.iload_n 2, 1) := by decide +kernel
theorem dX7_tell_13 : decode cX7_tell 13 = .ok (.i2l, 1) := by decide +kernel
theorem dX7_tell_14 : decode cX7_tell 14 = .ok (.lconst 0, 1) := by decide +kernel
theorem dX7_tell_15 : decode cX7_tell 15 = .ok (.ldc2_w 50, 3) := by decide +kernel
theorem dX7_tell_18 : decode cX7_tell 18 = .ok (.invokestatic 42, 3) := by decide +kernel
theorem dX7_tell_21 : decode cX7_tell 21 = .ok (.ifCond .eq 18, 3) := by decide +kernel
theorem dX7_tell_24 : decode cX7_tell 24 = .ok (.aload_n 0, 1) := by decide +kernel
theorem dX7_tell_25 : decode cX7_tell 25 = .ok (.iload_n 1, 1) := by decide +kernel
theorem dX7_tell_26 : decode cX7_tell 26 = .ok (.iload_n 2, 1) := by decide +kernel
theorem dX7_tell_27 : decode cX7_tell 27 = .ok (.aload_n 0, 1) := by decide +kernel
theorem dX7_tell_28 : decode cX7_tell 28 = .ok (.iload_n 1, 1) := by decide +kernel
theorem dX7_tell_29 : decode cX7_tell 29 = .ok (.iload_n 2, 1) := by decide +kernel
theorem dX7_tell_30 : decode cX7_tell 30 = .ok (.invokevirtual 179, 3) := by decide +kernel
theorem dX7_tell_33 : decode cX7_tell 33 = .ok (.invokevirtual 194, 3) := by decide +kernel
theorem dX7_tell_36 : decode cX7_tell 36 = .ok (.goto 4, 3) := by decide +kernel
theorem dX7_tell_39 : decode cX7_tell 39 = .ok (.iconst (-1), 1) := by decide +kernel
theorem dX7_tell_40 : decode cX7_tell 40 = .ok (.ireturn, 1) := by decide +kernel
set_option maxRecDepth 20000 in
theorem ggX7_first_X7_cuts : GoodIn wsX7_first wsX7_cuts := goodIn_r _ [12, 13, 14, 15, 16, 17, 18, 19, 20, 21, 11, 22, 23, 24, 25, 26, 27, 28, 29, 30, 31, 32, 33, 34, 35, 36, 37, 67, 68, 69, 70, 71, 72, 73, 74, 75, 76, 77, 78, 79, 80, 81, 82, 83, 84, 85, 86, 87, 88, 89, 90, 91, 92, 93, 94, 95, 96, 97, 98, 99, 100, 101, 102, 103, 104] (by decide +kernel) (by decide +kernel)
set_option maxRecDepth 20000 in
theorem gX7_first_X7_cuts : GoodIn wsX7_first (wsV RX7 147 RX7 yX7_cuts wsX7_cuts) := goodIn_app (goodIn_of _ (by decide +kernel)) ggX7_first_X7_cuts
set_option maxRecDepth 20000 in
theorem ggX7_first_X7_begins : GoodIn wsX7_first wsX7_begins := goodIn_r _ [41, 3, 5, 7, 6, 42, 43, 44, 45, 13, 16, 17, 46, 1, 47, 48, 49, 50, 67, 68, 69, 70, 71, 72, 73, 74, 75, 76, 77, 78, 79, 80, 81, 82, 83, 84, 85, 86, 87, 88, 89, 90, 91, 92, 93, 94, 95, 96, 97, 98, 99, 100, 101, 102, 103, 104] (by decide +kernel) (by decide +kernel)
set_option maxRecDepth 20000 in
theorem gX7_first_X7_begins : GoodIn wsX7_first (wsV RX7 82 RX7 yX7_begins wsX7_begins) := goodIn_app (goodIn_of _ (by decide +kernel)) ggX7_first_X7_begins
set_option maxRecDepth 20000 in
theorem ggX7_first_X7_switches : GoodIn wsX7_first wsX7_switches := goodIn_r _ [54, 45, 6, 7, 67, 68, 69, 70, 71, 72, 73, 74, 75, 76, 77, 78, 79, 80, 81, 82, 83, 84, 85, 86, 87, 88, 89, 90, 91, 92, 93, 94, 95, 96, 97, 98, 99, 100, 101, 102, 103, 104] (by decide +kernel) (by decide +kernel)
set_option maxRecDepth 20000 in
theorem gX7_first_X7_switches : GoodIn wsX7_first (wsV RX7 198 RX7 yX7_switches wsX7_switches) := goodIn_app (goodIn_of _ (by decide +kernel)) ggX7_first_X7_switches
set_option maxRecDepth 20000 in
theorem ggX7_first_X7_chooses : GoodIn wsX7_first wsX7_chooses := goodIn_r _ [58, 3, 5, 67, 68, 69, 70, 71, 72, 73, 74, 75, 76, 77, 78, 79, 80, 81, 82, 83, 84, 85, 86, 87, 88, 89, 90, 91, 92, 93, 94, 95, 96, 97, 98, 99, 100, 101, 102, 103, 104] (by decide +kernel) (by decide +kernel)
set_option maxRecDepth 20000 in
theorem gX7_first_X7_chooses : GoodIn wsX7_first (wsV RX7 201 RX7 yX7_chooses wsX7_chooses) := goodIn_app (goodIn_of _ (by decide +kernel)) ggX7_first_X7_chooses
set_option maxRecDepth 20000 in
theorem ggX7_first_X7_stops : GoodIn wsX7_first wsX7_stops := goodIn_r _ [62, 3, 13, 67, 68, 69, 70, 71, 72, 73, 74, 75, 76, 77, 78, 79, 80, 81, 82, 83, 84, 85, 86, 87, 88, 89, 90, 91, 92, 93, 94, 95, 96, 97, 98, 99, 100, 101, 102, 103, 104] (by decide +kernel) (by decide +kernel)
set_option maxRecDepth 20000 in
theorem gX7_first_X7_stops : GoodIn wsX7_first (wsV RX7 205 RX7 yX7_stops wsX7_stops) := goodIn_app (goodIn_of _ (by decide +kernel)) ggX7_first_X7_stops
set_option maxRecDepth 20000 in
theorem ggX7_first_X7_status : GoodIn wsX7_first wsX7_status := goodIn_r _ [66, 3, 44, 45, 67, 68, 69, 70, 71, 72, 73, 74, 75, 76, 77, 78, 79, 80, 81, 82, 83, 84, 85, 86, 87, 88, 89, 90, 91, 92, 93, 94, 95, 96, 97, 98, 99, 100, 101, 102, 103, 104] (by decide +kernel) (by decide +kernel)
set_option maxRecDepth 20000 in
theorem gX7_first_X7_status : GoodIn wsX7_first (wsV RX7 209 RX7 yX7_status wsX7_status) := goodIn_app (goodIn_of _ (by decide +kernel)) ggX7_first_X7_status
theorem dX7_first_0 : decode cX7_first 0 = .ok (.iload_n 1, 1) := by decide +kernel
theorem dX7_first_1 : decode cX7_first 1 = .ok (.tableswitch 175 0 12 #[67, 77, 112, 122, 175, 175, 142, 164, 175, 175, 175, 175, 170], 67) := by decide +kernel
theorem dX7_first_68 : decode cX7_first 68 = .ok (.aload_n 0, 1) := by decide +kernel
theorem dX7_first_69 : decode cX7_first 69 = .ok (.invokevirtual 147, 3) := by decide +kernel
theorem dX7_first_72 : decode cX7_first 72 = .ok (.aload_n 0, 1) := by decide +kernel
theorem dX7_first_73 : decode cX7_first 73 = .ok (.invokevirtual 82, 3) := by decide +kernel
theorem dX7_first_76 : decode cX7_first 76 = .ok (.iconst 0, 1) := by decide +kernel
theorem dX7_first_77 : decode cX7_first 77 = .ok (.ireturn, 1) := by decide +kernel
theorem dX7_first_78 : decode cX7_first 78 = .ok (.aload_n 0, 1) := by decide +kernel
theorem dX7_first_79 : decode cX7_first 79 = .ok (.dup, 1) := by decide +kernel
theorem dX7_first_80 : decode cX7_first 80 = .ok (.getfield 118, 3) := by decide +kernel
theorem dX7_first_83 : decode cX7_first 83 = .ok (.iconst 1, 1) := by decide +kernel
theorem dX7_first_84 : decode cX7_first 84 = .ok (.iadd, 1) := by decide +kernel
theorem dX7_first_85 : decode cX7_first 85 = .ok (.putfield 118, 3) := by decide +kernel
theorem dX7_first_88 : decode cX7_first 88 = .ok (.aload_n 0, 1) := by decide +kernel
theorem dX7_first_89 : decode cX7_first 89 = .ok (.aload_n 0, 1) := by decide +kernel
theorem dX7_first_90 : decode cX7_first 90 = .ok (.getfield 118, 3) := by decide +kernel
theorem dX7_first_93 : decode cX7_first 93 = .ok (.aload_n 0, 1) := by decide +kernel
theorem dX7_first_94 : decode cX7_first 94 = .ok (.getfield 59, 3) := by decide +kernel
theorem dX7_first_97 : decode cX7_first 97 = .ok (.if_icmp .le 7, 3) := by decide +kernel
theorem dX7_first_100 : decode cX7_first 100 = .ok (.iconst 1, 1) := by decide +kernel
theorem dX7_first_101 : decode cX7_first 101 = .ok (.goto 4, 3) := by decide +kernel
theorem dX7_first_104 : decode cX7_first 104 = .ok (.iconst 0, 1) := by decide +kernel
theorem dX7_first_105 : decode cX7_first 105 = .ok (.putfield 85, 3) := by decide +kernel
theorem dX7_first_108 : decode cX7_first 108 = .ok (.aload_n 0, 1) := by decide +kernel
theorem dX7_first_109 : decode cX7_first 109 = .ok (.getfield 85, 3) := by decide +kernel
theorem dX7_first_112 : decode cX7_first 112 = .ok (.ireturn, 1) := by decide +kernel
theorem dX7_first_113 : decode cX7_first 113 = .ok (.aload_n 0, 1) := by decide +kernel
theorem dX7_first_114 : decode cX7_first 114 = .ok (.iconst 2, 1) := by decide +kernel
theorem dX7_first_115 : decode cX7_first 115 = .ok (.putfield 85, 3) := by decide +kernel
theorem dX7_first_118 : decode cX7_first 118 = .ok (.aload_n 0, 1) := by decide +kernel
theorem dX7_first_119 : decode cX7_first 119 = .ok (.getfield 62, 3) := by decide +kernel
theorem dX7_first_122 : decode cX7_first 122 = .ok (.ireturn, 1) := by decide +kernel
theorem dX7_first_123 : decode cX7_first 123 = .ok (.aload_n 0, 1) := by decide +kernel
theorem dX7_first_124 : decode cX7_first 124 = .ok (.dup, 1) := by decide +kernel
theorem dX7_first_125 : decode cX7_first 125 = .ok (.getfield 88, 3) := by decide +kernel
theorem dX7_first_128 : decode cX7_first 128 = .ok (.iconst 1, 1) := by decide +kernel
theorem dX7_first_129 : decode cX7_first 129 = .ok (.iadd, 1) := by decide +kernel
theorem dX7_first_130 : decode cX7_first 130 = .ok (.putfield 88, 3) := by decide +kernel
theorem dX7_first_133 : decode cX7_first 133 = .ok (.aload_n 0, 1) := by decide +kernel
theorem dX7_first_134 : decode cX7_first 134 = .ok (.iconst 3, 1) := by decide +kernel
theorem dX7_first_135 : decode cX7_first 135 = .ok (.putfield 85, 3) := by decide +kernel
theorem dX7_first_138 : decode cX7_first 138 = .ok (.aload_n 0, 1) := by decide +kernel
theorem dX7_first_139 : decode cX7_first 139 = .ok (.getfield 88, 3) := by decide +kernel
theorem dX7_first_142 : decode cX7_first 142 = .ok (.ireturn, 1) := by decide +kernel
theorem dX7_first_143 : decode cX7_first 143 = .ok (.aload_n 0, 1) := by decide +kernel
theorem dX7_first_144 : decode cX7_first 144 = .ok (.iload_n 2, 1) := by decide +kernel
theorem dX7_first_145 : decode cX7_first 145 = .ok (.iconst 4, 1) := by decide +kernel
theorem dX7_first_146 : decode cX7_first 146 = .ok (.idiv, 1) := by decide +kernel
theorem dX7_first_147 : decode cX7_first 147 = .ok (.iload_n 2, 1) := by decide +kernel
theorem dX7_first_148 : decode cX7_first 148 = .ok (.iconst 4, 1) := by decide +kernel
theorem dX7_first_149 : decode cX7_first 149 = .ok (.irem, 1) := by decide +kernel
theorem dX7_first_150 : decode cX7_first 150 = .ok (.invokevirtual 198, 3) := by decide +kernel
theorem dX7_first_153 : decode cX7_first 153 = .ok (.iconst 4, 1) := by decide +kernel
theorem dX7_first_154 : decode cX7_first 154 = .ok (.aload_n 0, 1) := by decide +kernel
theorem dX7_first_155 : decode cX7_first 155 = .ok (.getfield 94, 3) := by decide +kernel
theorem dX7_first_158 : decode cX7_first 158 = .ok (.imul, 1) := by decide +kernel
theorem dX7_first_159 : decode cX7_first 159 = .ok (.aload_n 0, 1) := by decide +kernel
theorem dX7_first_160 : decode cX7_first 160 = .ok (.getfield 91, 3) := by decide +kernel
theorem dX7_first_163 : decode cX7_first 163 = .ok (.iadd, 1) := by decide +kernel
theorem dX7_first_164 : decode cX7_first 164 = .ok (.ireturn, 1) := by decide +kernel
theorem dX7_first_165 : decode cX7_first 165 = .ok (.aload_n 0, 1) := by decide +kernel
theorem dX7_first_166 : decode cX7_first 166 = .ok (.iload_n 2, 1) := by decide +kernel
theorem dX7_first_167 : decode cX7_first 167 = .ok (.invokevirtual 201, 3) := by decide +kernel
theorem dX7_first_170 : decode cX7_first 170 = .ok (.ireturn, 1) := by decide +kernel
theorem dX7_first_171 : decode cX7_first 171 = .ok (.aload_n 0, 1) := by decide +kernel
theorem dX7_first_172 : decode cX7_first 172 = .ok (.invokevirtual 205, 3) := by decide +kernel
theorem dX7_first_175 : decode cX7_first 175 = .ok (.ireturn, 1) := by decide +kernel
theorem dX7_first_176 : decode cX7_first 176 = .ok (.iload_n 2, 1) := by decide +kernel
theorem dX7_first_177 : decode cX7_first 177 = .ok (.aload_n 0, 1) := by decide +kernel
theorem dX7_first_178 : decode cX7_first 178 = .ok (.getfield 88, 3) := by decide +kernel
theorem dX7_first_181 : decode cX7_first 181 = .ok (.if_icmp .ne 10, 3) := by decide +kernel
theorem dX7_first_184 : decode cX7_first 184 = .ok (.aload_n 0, 1) := by decide +kernel
theorem dX7_first_185 : decode cX7_first 185 = .ok (.invokevirtual 209, 3) := by decide +kernel
theorem dX7_first_188 : decode cX7_first 188 = .ok (.goto 5, 3) := by decide +kernel
theorem dX7_first_191 : decode cX7_first 191 = .ok (.bipush (-4), 2) := by decide +kernel
theorem dX7_first_193 : decode cX7_first 193 = .ok (.ireturn, 1) := by decide +kernel
theorem dX7_chooses_0 : decode cX7_chooses 0 = .ok (.aload_n 0, 1) := by decide +kernel
theorem dX7_chooses_1 : decode cX7_chooses 1 = .ok (.getfield 85, 3) := by decide +kernel
theorem dX7_chooses_4 : decode cX7_chooses 4 = .ok (.iconst 4, 1) := by decide +kernel
theorem dX7_chooses_5 : decode cX7_chooses 5 = .ok (.if_icmp .ne 23, 3) := by decide +kernel
theorem dX7_chooses_8 : decode cX7_chooses 8 = .ok (.aload_n 0, 1) := by decide +kernel
theorem dX7_chooses_9 : decode cX7_chooses 9 = .ok (.iload_n 1, 1) := by decide +kernel
theorem dX7_chooses_10 : decode cX7_chooses 10 = .ok (.aload_n 0, 1) := by decide +kernel
theorem dX7_chooses_11 : decode cX7_chooses 11 = .ok (.getfield 88, 3) := by decide +kernel
theorem dX7_chooses_14 : decode cX7_chooses 14 = .ok (.if_icmp .ne 7, 3) := by decide +kernel
theorem dX7_chooses_17 : decode cX7_chooses 17 = .ok (.iconst 4, 1) := by decide +kernel
theorem dX7_chooses_18 : decode cX7_chooses 18 = .ok (.goto 4, 3) := by decide +kernel
theorem dX7_chooses_21 : decode cX7_chooses 21 = .ok (.iconst 3, 1) := by decide +kernel
theorem dX7_chooses_22 : decode cX7_chooses 22 = .ok (.putfield 85, 3) := by decide +kernel
theorem dX7_chooses_25 : decode cX7_chooses 25 = .ok (.bipush (-4), 2) := by decide +kernel
theorem dX7_chooses_27 : decode cX7_chooses 27 = .ok (.ireturn, 1) := by decide +kernel
theorem dX7_chooses_28 : decode cX7_chooses 28 = .ok (.aload_n 0, 1) := by decide +kernel
theorem dX7_chooses_29 : decode cX7_chooses 29 = .ok (.iload_n 1, 1) := by decide +kernel
theorem dX7_chooses_30 : decode cX7_chooses 30 = .ok (.aload_n 0, 1) := by decide +kernel
theorem dX7_chooses_31 : decode cX7_chooses 31 = .ok (.getfield 88, 3) := by decide +kernel
theorem dX7_chooses_34 : decode cX7_chooses 34 = .ok (.if_icmp .ne 7, 3) := by decide +kernel
theorem dX7_chooses_37 : decode cX7_chooses 37 = .ok (.iconst 4, 1) := by decide +kernel
theorem dX7_chooses_38 : decode cX7_chooses 38 = .ok (.goto 4, 3) := by decide +kernel
theorem dX7_chooses_41 : decode cX7_chooses 41 = .ok (.iconst 3, 1) := by decide +kernel
theorem dX7_chooses_42 : decode cX7_chooses 42 = .ok (.putfield 85, 3) := by decide +kernel
theorem dX7_chooses_45 : decode cX7_chooses 45 = .ok (.iload_n 1, 1) := by decide +kernel
theorem dX7_chooses_46 : decode cX7_chooses 46 = .ok (.aload_n 0, 1) := by decide +kernel
theorem dX7_chooses_47 : decode cX7_chooses 47 = .ok (.getfield 88, 3) := by decide +kernel
theorem dX7_chooses_50 : decode cX7_chooses 50 = .ok (.if_icmp .ne 7, 3) := by decide +kernel
theorem dX7_chooses_53 : decode cX7_chooses 53 = .ok (.iconst 1, 1) := by decide +kernel
theorem dX7_chooses_54 : decode cX7_chooses 54 = .ok (.goto 5, 3) := by decide +kernel
theorem dX7_chooses_57 : decode cX7_chooses 57 = .ok (.bipush (-4), 2) := by decide +kernel
theorem dX7_chooses_59 : decode cX7_chooses 59 = .ok (.ireturn, 1) := by decide +kernel
theorem dX7_status_0 : decode cX7_status 0 = .ok (.sipush 256, 3) := by decide +kernel
theorem dX7_status_3 : decode cX7_status 3 = .ok (.aload_n 0, 1) := by decide +kernel
theorem dX7_status_4 : decode cX7_status 4 = .ok (.getfield 85, 3) := by decide +kernel
theorem dX7_status_7 : decode cX7_status 7 = .ok (.imul, 1) := by decide +kernel
theorem dX7_status_8 : decode cX7_status 8 = .ok (.aload_n 0, 1) := by decide +kernel
theorem dX7_status_9 : decode cX7_status 9 = .ok (.getfield 100, 3) := by decide +kernel
theorem dX7_status_12 : decode cX7_status 12 = .ok (.ifCond .eq 9, 3) := by decide +kernel
theorem dX7_status_15 : decode cX7_status 15 = .ok (.sipush 128, 3) := by decide +kernel
theorem dX7_status_18 : decode cX7_status 18 = .ok (.goto 4, 3) := by decide +kernel
theorem dX7_status_21 : decode cX7_status 21 = .ok (.iconst 0, 1) := by decide +kernel
theorem dX7_status_22 : decode cX7_status 22 = .ok (.iadd, 1) := by decide +kernel
theorem dX7_status_23 : decode cX7_status 23 = .ok (.aload_n 0, 1) := by decide +kernel
theorem dX7_status_24 : decode cX7_status 24 = .ok (.getfield 103, 3) := by decide +kernel
theorem dX7_status_27 : decode cX7_status 27 = .ok (.iadd, 1) := by decide +kernel
theorem dX7_status_28 : decode cX7_status 28 = .ok (.istore_n 1, 1) := by decide +kernel
theorem dX7_status_29 : decode cX7_status 29 = .ok (.aload_n 0, 1) := by decide +kernel
theorem dX7_status_30 : decode cX7_status 30 = .ok (.iconst 0, 1) := by decide +kernel
theorem dX7_status_31 : decode cX7_status 31 = .ok (.putfield 103, 3) := by decide +kernel
theorem dX7_status_34 : decode cX7_status 34 = .ok (.iload_n 1, 1) := by decide +kernel
theorem dX7_status_35 : decode cX7_status 35 = .ok (.ireturn, 1) := by decide +kernel
theorem dX7_switches_0 : decode cX7_switches 0 = .ok (.iload_n 1, 1) := by decide +kernel
theorem dX7_switches_1 : decode cX7_switches 1 = .ok (.iconst 3, 1) := by decide +kernel
theorem dX7_switches_2 : decode cX7_switches 2 = .ok (.if_icmp .gt 17, 3) := by decide +kernel
theorem dX7_switches_5 : decode cX7_switches 5 = .ok (.iload_n 2, 1) := by decide +kernel
theorem dX7_switches_6 : decode cX7_switches 6 = .ok (.iconst 2, 1) := by decide +kernel
theorem dX7_switches_7 : decode cX7_switches 7 = .ok (.if_icmp .gt 12, 3) := by decide +kernel
theorem dX7_switches_10 : decode cX7_switches 10 = .ok (.iload_n 1, 1) := by decide +kernel
theorem dX7_switches_11 : decode cX7_switches 11 = .ok (.iconst 1, 1) := by decide +kernel
theorem dX7_switches_12 : decode cX7_switches 12 = .ok (.if_icmp .le 21, 3) := by decide +kernel
theorem dX7_switches_15 : decode cX7_switches 15 = .ok (.iload_n 2, 1) := by decide +kernel
theorem dX7_switches_16 : decode cX7_switches 16 = .ok (.ifCond .ne 17, 3) := by decide +kernel
theorem dX7_switches_19 : decode cX7_switches 19 = .ok (.aload_n 0, 1) := by decide +kernel
theorem dX7_switches_20 : decode cX7_switches 20 = .ok (.dup, 1) := by decide +kernel
theorem dX7_switches_21 : decode cX7_switches 21 = .ok (.getfield 103, 3) := by decide +kernel
theorem dX7_switches_24 : decode cX7_switches 24 = .ok (.bipush 32, 2) := by decide +kernel
theorem dX7_switches_26 : decode cX7_switches 26 = .ok (.ior, 1) := by decide +kernel
theorem dX7_switches_27 : decode cX7_switches 27 = .ok (.putfield 103, 3) := by decide +kernel
theorem dX7_switches_30 : decode cX7_switches 30 = .ok (.goto 13, 3) := by decide +kernel
theorem dX7_switches_33 : decode cX7_switches 33 = .ok (.aload_n 0, 1) := by decide +kernel
theorem dX7_switches_34 : decode cX7_switches 34 = .ok (.iload_n 1, 1) := by decide +kernel
theorem dX7_switches_35 : decode cX7_switches 35 = .ok (.putfield 94, 3) := by decide +kernel
theorem dX7_switches_38 : decode cX7_switches 38 = .ok (.aload_n 0, 1) := by decide +kernel
theorem dX7_switches_39 : decode cX7_switches 39 = .ok (.iload_n 2, 1) := by decide +kernel
theorem dX7_switches_40 : decode cX7_switches 40 = .ok (.putfield 91, 3) := by decide +kernel
theorem dX7_switches_43 : decode cX7_switches 43 = .ok (.return_, 1) := by decide +kernel
theorem dX7_stops_0 : decode cX7_stops 0 = .ok (.aload_n 0, 1) := by decide +kernel
theorem dX7_stops_1 : decode cX7_stops 1 = .ok (.getfield 85, 3) := by decide +kernel
theorem dX7_stops_4 : decode cX7_stops 4 = .ok (.bipush 6, 2) := by decide +kernel
theorem dX7_stops_6 : decode cX7_stops 6 = .ok (.if_icmp .ne 10, 3) := by decide +kernel
theorem dX7_stops_9 : decode cX7_stops 9 = .ok (.aload_n 0, 1) := by decide +kernel
theorem dX7_stops_10 : decode cX7_stops 10 = .ok (.getfield 106, 3) := by decide +kernel
theorem dX7_stops_13 : decode cX7_stops 13 = .ok (.goto 4, 3) := by decide +kernel
theorem dX7_stops_16 : decode cX7_stops 16 = .ok (.iconst 0, 1) := by decide +kernel
theorem dX7_stops_17 : decode cX7_stops 17 = .ok (.istore_n 1, 1) := by decide +kernel
theorem dX7_stops_18 : decode cX7_stops 18 = .ok (.aload_n 0, 1) := by decide +kernel
theorem dX7_stops_19 : decode cX7_stops 19 = .ok (.iload_n 1, 1) := by decide +kernel
theorem dX7_stops_20 : decode cX7_stops 20 = .ok (.ifCond .le 8, 3) := by decide +kernel
theorem dX7_stops_23 : decode cX7_stops 23 = .ok (.bipush 7, 2) := by decide +kernel
theorem dX7_stops_25 : decode cX7_stops 25 = .ok (.goto 4, 3) := by decide +kernel
theorem dX7_stops_28 : decode cX7_stops 28 = .ok (.iconst 4, 1) := by decide +kernel
theorem dX7_stops_29 : decode cX7_stops 29 = .ok (.putfield 85, 3) := by decide +kernel
theorem dX7_stops_32 : decode cX7_stops 32 = .ok (.iload_n 1, 1) := by decide +kernel
theorem dX7_stops_33 : decode cX7_stops 33 = .ok (.ireturn, 1) := by decide +kernel
set_option maxRecDepth 20000 in
theorem ggX7_streams_X7_isInWindow : GoodIn wsX7_streams wsX7_isInWindow := goodIn_r _ [8, 1, 9, 10, 25, 26, 27, 28, 29, 30, 31, 32, 33, 34, 35, 36, 37, 38, 39, 40, 41, 42, 43, 44, 45, 46, 47, 48, 49, 50, 51, 52, 53, 54, 55, 56, 57, 58, 59, 60, 61, 62] (by decide +kernel) (by decide +kernel)
set_option maxRecDepth 20000 in
theorem gX7_streams_X7_isInWindow : GoodIn wsX7_streams (wsV RX7 212 RX7 yX7_isInWindow wsX7_isInWindow) := goodIn_app (goodIn_of _ (by decide +kernel)) ggX7_streams_X7_isInWindow
set_option maxRecDepth 20000 in
theorem ggX7_streams_X7_streamsFrom : GoodIn wsX7_streams wsX7_streamsFrom := goodIn_r _ [14, 15, 16, 17, 3, 18, 19, 2, 20, 21, 22, 7, 23, 24, 25, 26, 27, 28, 29, 30, 31, 32, 33, 34, 35, 36, 37, 38, 39, 40, 41, 42, 43, 44, 45, 46, 47, 48, 49, 50, 51, 52, 53, 54, 55, 56, 57, 58, 59, 60, 61, 62] (by decide +kernel) (by decide +kernel)
set_option maxRecDepth 20000 in
theorem gX7_streams_X7_streamsFrom : GoodIn wsX7_streams (wsV RX7 216 RX7 yX7_streamsFrom wsX7_streamsFrom) := goodIn_app (goodIn_of _ (by decide +kernel)) ggX7_streams_X7_streamsFrom
theorem dX7_streams_0 : decode cX7_streams 0 = .ok (.iload_n 1, 1) := by decide +kernel
theorem dX7_streams_1 : decode cX7_streams 1 = .ok (.tableswitch 60 21 23 #[27, 48, 53], 27) := by decide +kernel
theorem dX7_streams_28 : decode cX7_streams 28 = .ok (.aload_n 0, 1) := by decide +kernel
theorem dX7_streams_29 : decode cX7_streams 29 = .ok (.iload_n 2, 1) := by decide +kernel
theorem dX7_streams_30 : decode cX7_streams 30 = .ok (.bipush 16, 2) := by decide +kernel
theorem dX7_streams_32 : decode cX7_streams 32 = .ok (.irem, 1) := by decide +kernel
theorem dX7_streams_33 : decode cX7_streams 33 = .ok (.putfield 97, 3) := by decide +kernel
theorem dX7_streams_36 : decode cX7_streams 36 = .ok (.aload_n 0, 1) := by decide +kernel
theorem dX7_streams_37 : decode cX7_streams 37 = .ok (.invokevirtual 212, 3) := by decide +kernel
theorem dX7_streams_40 : decode cX7_streams 40 = .ok (.ifCond .eq 7, 3) := by decide +kernel
theorem dX7_streams_43 : decode cX7_streams 43 = .ok (.iconst 1, 1) := by decide +kernel
theorem dX7_streams_44 : decode cX7_streams 44 = .ok (.goto 4, 3) := by decide +kernel
theorem dX7_streams_47 : decode cX7_streams 47 = .ok (.iconst 0, 1) := by decide +kernel
theorem dX7_streams_48 : decode cX7_streams 48 = .ok (.ireturn, 1) := by decide +kernel
theorem dX7_streams_49 : decode cX7_streams 49 = .ok (.aload_n 0, 1) := by decide +kernel
theorem dX7_streams_50 : decode cX7_streams 50 = .ok (.getfield 68, 3) := by decide +kernel
theorem dX7_streams_53 : decode cX7_streams 53 = .ok (.ireturn, 1) := by decide +kernel
theorem dX7_streams_54 : decode cX7_streams 54 = .ok (.aload_n 0, 1) := by decide +kernel
theorem dX7_streams_55 : decode cX7_streams 55 = .ok (.iload_n 2, 1) := by decide +kernel
theorem dX7_streams_56 : decode cX7_streams 56 = .ok (.putfield 115, 3) := by decide +kernel
theorem dX7_streams_59 : decode cX7_streams 59 = .ok (.iload_n 2, 1) := by decide +kernel
theorem dX7_streams_60 : decode cX7_streams 60 = .ok (.ireturn, 1) := by decide +kernel
theorem dX7_streams_61 : decode cX7_streams 61 = .ok (.aload_n 0, 1) := by decide +kernel
theorem dX7_streams_62 : decode cX7_streams 62 = .ok (.iload_n 1, 1) := by decide +kernel
theorem dX7_streams_63 : decode cX7_streams 63 = .ok (.iload_n 2, 1) := by decide +kernel
theorem dX7_streams_64 : decode cX7_streams 64 = .ok (.invokevirtual 216, 3) := by decide +kernel
theorem dX7_streams_67 : decode cX7_streams 67 = .ok (.ireturn, 1) := by decide +kernel
set_option maxRecDepth 20000 in
theorem ggX7_streamsFrom_X7_noting : GoodIn wsX7_streamsFrom wsX7_noting := goodIn_r _ [12, 13, 14, 15, 16, 17, 18, 19, 20, 21, 22, 23, 24, 25, 26, 27, 28, 29, 30, 31, 32, 33, 34, 35, 36, 37, 38, 39, 40, 41, 42, 43, 44, 45, 46, 47, 48, 49, 50, 51] (by decide +kernel) (by decide +kernel)
set_option maxRecDepth 20000 in
theorem gX7_streamsFrom_X7_noting : GoodIn wsX7_streamsFrom (wsV RX7 219 RX7 yX7_noting wsX7_noting) := goodIn_app (goodIn_of _ (by decide +kernel)) ggX7_streamsFrom_X7_noting
theorem dX7_streamsFrom_0 : decode cX7_streamsFrom 0 = .ok (.iload_n 2, 1) := by decide +kernel
theorem dX7_streamsFrom_1 : decode cX7_streamsFrom 1 = .ok (.aload_n 0, 1) := by decide +kernel
theorem dX7_streamsFrom_2 : decode cX7_streamsFrom 2 = .ok (.getfield 52, 3) := by decide +kernel
theorem dX7_streamsFrom_5 : decode cX7_streamsFrom 5 = .ok (.if_icmp .lt 9, 3) := by decide +kernel
theorem dX7_streamsFrom_8 : decode cX7_streamsFrom 8 = .ok (.aload_n 0, 1) := by decide +kernel
theorem dX7_streamsFrom_9 : decode cX7_streamsFrom 9 = .ok (.iconst 4, 1) := by decide +kernel
theorem dX7_streamsFrom_10 : decode cX7_streamsFrom 10 = .ok (.invokevirtual 219, 3) := by decide +kernel
theorem dX7_streamsFrom_13 : decode cX7_streamsFrom 13 = .ok (.ireturn, 1) := by decide +kernel
theorem dX7_streamsFrom_14 : decode cX7_streamsFrom 14 = .ok (.iload_n 1, 1) := by decide +kernel
theorem dX7_streamsFrom_15 : decode cX7_streamsFrom 15 = .ok (.bipush 17, 2) := by decide +kernel
theorem dX7_streamsFrom_17 : decode cX7_streamsFrom 17 = .ok (.if_icmp .eq 9, 3) := by decide +kernel
theorem dX7_streamsFrom_20 : decode cX7_streamsFrom 20 = .ok (.iload_n 1, 1) := by decide +kernel
theorem dX7_streamsFrom_21 : decode cX7_streamsFrom 21 = .ok (.bipush 24, 2) := by decide +kernel
theorem dX7_streamsFrom_23 : decode cX7_streamsFrom 23 = .ok (.if_icmp .ne 7, 3) := by decide +kernel
theorem dX7_streamsFrom_26 : decode cX7_streamsFrom 26 = .ok (.iconst 1, 1) := by decide +kernel
theorem dX7_streamsFrom_27 : decode cX7_streamsFrom 27 = .ok (.goto 4, 3) := by decide +kernel
theorem dX7_streamsFrom_30 : decode cX7_streamsFrom 30 = .ok (.iconst 0, 1) := by decide +kernel
theorem dX7_streamsFrom_31 : decode cX7_streamsFrom 31 = .ok (.istore_n 3, 1) := by decide +kernel
theorem dX7_streamsFrom_32 : decode cX7_streamsFrom 32 = .ok (.aload_n 0, 1) := by decide +kernel
theorem dX7_streamsFrom_33 : decode cX7_streamsFrom 33 = .ok (.iload_n 1, 1) := by decide +kernel
theorem dX7_streamsFrom_34 : decode cX7_streamsFrom 34 = .ok (.bipush 20, 2) := by decide +kernel
theorem dX7_streamsFrom_36 : decode cX7_streamsFrom 36 = .ok (.if_icmp .ge 7, 3) := by decide +kernel
theorem dX7_streamsFrom_39 : decode cX7_streamsFrom 39 = .ok (.iconst 5, 1) := by decide +kernel
theorem dX7_streamsFrom_40 : decode cX7_streamsFrom 40 = .ok (.goto 5, 3) := by decide +kernel
theorem dX7_streamsFrom_43 : decode cX7_streamsFrom 43 = .ok (.bipush 6, 2) := by decide +kernel
theorem dX7_streamsFrom_45 : decode cX7_streamsFrom 45 = .ok (.putfield 85, 3) := by decide +kernel
theorem dX7_streamsFrom_48 : decode cX7_streamsFrom 48 = .ok (.aload_n 0, 1) := by decide +kernel
theorem dX7_streamsFrom_49 : decode cX7_streamsFrom 49 = .ok (.iload_n 2, 1) := by decide +kernel
theorem dX7_streamsFrom_50 : decode cX7_streamsFrom 50 = .ok (.putfield 124, 3) := by decide +kernel
theorem dX7_streamsFrom_53 : decode cX7_streamsFrom 53 = .ok (.aload_n 0, 1) := by decide +kernel
theorem dX7_streamsFrom_54 : decode cX7_streamsFrom 54 = .ok (.iload_n 3, 1) := by decide +kernel
theorem dX7_streamsFrom_55 : decode cX7_streamsFrom 55 = .ok (.ifCond .eq 7, 3) := by decide +kernel
theorem dX7_streamsFrom_58 : decode cX7_streamsFrom 58 = .ok (.iconst 1, 1) := by decide +kernel
theorem dX7_streamsFrom_59 : decode cX7_streamsFrom 59 = .ok (.goto 19, 3) := by decide +kernel
theorem dX7_streamsFrom_62 : decode cX7_streamsFrom 62 = .ok (.aload_n 0, 1) := by decide +kernel
theorem dX7_streamsFrom_63 : decode cX7_streamsFrom 63 = .ok (.getfield 115, 3) := by decide +kernel
theorem dX7_streamsFrom_66 : decode cX7_streamsFrom 66 = .ok (.ifCond .le 10, 3) := by decide +kernel
theorem dX7_streamsFrom_69 : decode cX7_streamsFrom 69 = .ok (.aload_n 0, 1) := by decide +kernel
theorem dX7_streamsFrom_70 : decode cX7_streamsFrom 70 = .ok (.getfield 115, 3) := by decide +kernel
theorem dX7_streamsFrom_73 : decode cX7_streamsFrom 73 = .ok (.goto 5, 3) := by decide +kernel
theorem dX7_streamsFrom_76 : decode cX7_streamsFrom 76 = .ok (.bipush (-4), 2) := by decide +kernel
theorem dX7_streamsFrom_78 : decode cX7_streamsFrom 78 = .ok (.putfield 127, 3) := by decide +kernel
theorem dX7_streamsFrom_81 : decode cX7_streamsFrom 81 = .ok (.aload_n 0, 1) := by decide +kernel
theorem dX7_streamsFrom_82 : decode cX7_streamsFrom 82 = .ok (.bipush (-4), 2) := by decide +kernel
theorem dX7_streamsFrom_84 : decode cX7_streamsFrom 84 = .ok (.putfield 115, 3) := by decide +kernel
theorem dX7_streamsFrom_87 : decode cX7_streamsFrom 87 = .ok (.aload_n 0, 1) := by decide +kernel
theorem dX7_streamsFrom_88 : decode cX7_streamsFrom 88 = .ok (.iconst 0, 1) := by decide +kernel
theorem dX7_streamsFrom_89 : decode cX7_streamsFrom 89 = .ok (.putfield 130, 3) := by decide +kernel
theorem dX7_streamsFrom_92 : decode cX7_streamsFrom 92 = .ok (.aload_n 0, 1) := by decide +kernel
theorem dX7_streamsFrom_93 : decode cX7_streamsFrom 93 = .ok (.aload_n 0, 1) := by decide +kernel
theorem dX7_streamsFrom_94 : decode cX7_streamsFrom 94 = .ok (.getfield 85, 3) := by decide +kernel
theorem dX7_streamsFrom_97 : decode cX7_streamsFrom 97 = .ok (.bipush 6, 2) := by decide +kernel
theorem dX7_streamsFrom_99 : decode cX7_streamsFrom 99 = .ok (.if_icmp .ne 7, 3) := by decide +kernel
theorem dX7_streamsFrom_102 : decode cX7_streamsFrom 102 = .ok (.iconst 0, 1) := by decide +kernel
theorem dX7_streamsFrom_103 : decode cX7_streamsFrom 103 = .ok (.goto 7, 3) := by decide +kernel
theorem dX7_streamsFrom_106 : decode cX7_streamsFrom 106 = .ok (.aload_n 0, 1) := by decide +kernel
theorem dX7_streamsFrom_107 : decode cX7_streamsFrom 107 = .ok (.getfield 68, 3) := by decide +kernel
theorem dX7_streamsFrom_110 : decode cX7_streamsFrom 110 = .ok (.putfield 68, 3) := by decide +kernel
theorem dX7_streamsFrom_113 : decode cX7_streamsFrom 113 = .ok (.iconst 0, 1) := by decide +kernel
theorem dX7_streamsFrom_114 : decode cX7_streamsFrom 114 = .ok (.ireturn, 1) := by decide +kernel
set_option maxRecDepth 20000 in
theorem ggX7_erases_X7_noting : GoodIn wsX7_erases wsX7_noting := goodIn_r _ [10, 11, 48, 49, 50, 51, 52, 53, 54, 55, 56, 57, 58, 59, 60, 61, 62, 63, 64, 65, 66, 67, 68, 69, 70, 71, 72, 73, 74, 75, 76, 77, 78, 79, 80, 81, 82, 83, 84, 85] (by decide +kernel) (by decide +kernel)
set_option maxRecDepth 20000 in
theorem gX7_erases_X7_noting : GoodIn wsX7_erases (wsV RX7 219 RX7 yX7_noting wsX7_noting) := goodIn_app (goodIn_of _ (by decide +kernel)) ggX7_erases_X7_noting
set_option maxRecDepth 20000 in
theorem ggX7_erases_X7_endsAt : GoodIn wsX7_erases wsX7_endsAt := goodIn_r _ [15, 3, 1, 2, 5, 6, 7, 8, 9, 10, 11, 48, 49, 50, 51, 52, 53, 54, 55, 56, 57, 58, 59, 60, 61, 62, 63, 64, 65, 66, 67, 68, 69, 70, 71, 72, 73, 74, 75, 76, 77, 78, 79, 80, 81, 82, 83, 84, 85] (by decide +kernel) (by decide +kernel)
set_option maxRecDepth 20000 in
theorem gX7_erases_X7_endsAt : GoodIn wsX7_erases (wsV RX7 225 RX7 yX7_endsAt wsX7_endsAt) := goodIn_app (goodIn_of _ (by decide +kernel)) ggX7_erases_X7_endsAt
set_option maxRecDepth 20000 in
theorem ggX7_erases_X7_erasesGroups : GoodIn wsX7_erases wsX7_erasesGroups := goodIn_r _ [19, 20, 21, 22, 23, 48, 49, 50, 51, 52, 53, 54, 55, 56, 57, 58, 59, 60, 61, 62, 63, 64, 65, 66, 67, 68, 69, 70, 71, 72, 73, 74, 75, 76, 77, 78, 79, 80, 81, 82, 83, 84, 85] (by decide +kernel) (by decide +kernel)
set_option maxRecDepth 20000 in
theorem gX7_erases_X7_erasesGroups : GoodIn wsX7_erases (wsV RX7 231 RX7 yX7_erasesGroups wsX7_erasesGroups) := goodIn_app (goodIn_of _ (by decide +kernel)) ggX7_erases_X7_erasesGroups
set_option maxRecDepth 20000 in
theorem ggX7_erases_X7_locks : GoodIn wsX7_erases wsX7_locks := goodIn_r _ [27, 28, 29, 30, 31, 32, 9, 33, 34, 35, 36, 37, 38, 39, 40, 41, 42, 43, 44, 45, 46, 47, 1, 4, 16, 17, 18, 19, 20, 21, 22, 23, 6, 7, 8, 10, 11, 48, 49, 50, 51, 52, 53, 54, 55, 56, 57, 58, 59, 60, 61, 62, 63, 64, 65, 66, 67, 68, 69, 70, 71, 72, 73, 74, 75, 76, 77, 78, 79, 80, 81, 82, 83, 84, 85] (by decide +kernel) (by decide +kernel)
set_option maxRecDepth 20000 in
theorem gX7_erases_X7_locks : GoodIn wsX7_erases (wsV RX7 234 RX7 yX7_locks wsX7_locks) := goodIn_app (goodIn_of _ (by decide +kernel)) ggX7_erases_X7_locks
theorem dX7_erases_0 : decode cX7_erases 0 = .ok (.iload_n 1, 1) := by decide +kernel
theorem dX7_erases_1 : decode cX7_erases 1 = .ok (.lookupswitch 122 #[(32, 35), (33, 61), (38, 67)], 35) := by decide +kernel
theorem dX7_erases_36 : decode cX7_erases 36 = .ok (.iload_n 2, 1) := by decide +kernel
theorem dX7_erases_37 : decode cX7_erases 37 = .ok (.aload_n 0, 1) := by decide +kernel
theorem dX7_erases_38 : decode cX7_erases 38 = .ok (.getfield 52, 3) := by decide +kernel
theorem dX7_erases_41 : decode cX7_erases 41 = .ok (.if_icmp .lt 9, 3) := by decide +kernel
theorem dX7_erases_44 : decode cX7_erases 44 = .ok (.aload_n 0, 1) := by decide +kernel
theorem dX7_erases_45 : decode cX7_erases 45 = .ok (.iconst 4, 1) := by decide +kernel
theorem dX7_erases_46 : decode cX7_erases 46 = .ok (.invokevirtual 219, 3) := by decide +kernel
theorem dX7_erases_49 : decode cX7_erases 49 = .ok (.ireturn, 1) := by decide +kernel
theorem dX7_erases_50 : decode cX7_erases 50 = .ok (.aload_n 0, 1) := by decide +kernel
theorem dX7_erases_51 : decode cX7_erases 51 = .ok (.iload_n 2, 1) := by decide +kernel
theorem dX7_erases_52 : decode cX7_erases 52 = .ok (.putfield 222, 3) := by decide +kernel
theorem dX7_erases_55 : decode cX7_erases 55 = .ok (.aload_n 0, 1) := by decide +kernel
theorem dX7_erases_56 : decode cX7_erases 56 = .ok (.iconst 1, 1) := by decide +kernel
theorem dX7_erases_57 : decode cX7_erases 57 = .ok (.putfield 121, 3) := by decide +kernel
theorem dX7_erases_60 : decode cX7_erases 60 = .ok (.iconst 0, 1) := by decide +kernel
theorem dX7_erases_61 : decode cX7_erases 61 = .ok (.ireturn, 1) := by decide +kernel
theorem dX7_erases_62 : decode cX7_erases 62 = .ok (.aload_n 0, 1) := by decide +kernel
theorem dX7_erases_63 : decode cX7_erases 63 = .ok (.iload_n 2, 1) := by decide +kernel
theorem dX7_erases_64 : decode cX7_erases 64 = .ok (.invokevirtual 225, 3) := by decide +kernel
theorem dX7_erases_67 : decode cX7_erases 67 = .ok (.ireturn, 1) := by decide +kernel
theorem dX7_erases_68 : decode cX7_erases 68 = .ok (.aload_n 0, 1) := by decide +kernel
theorem dX7_erases_69 : decode cX7_erases 69 = .ok (.getfield 121, 3) := by decide +kernel
theorem dX7_erases_72 : decode cX7_erases 72 = .ok (.iconst 2, 1) := by decide +kernel
theorem dX7_erases_73 : decode cX7_erases 73 = .ok (.if_icmp .eq 10, 3) := by decide +kernel
theorem dX7_erases_76 : decode cX7_erases 76 = .ok (.aload_n 0, 1) := by decide +kernel
theorem dX7_erases_77 : decode cX7_erases 77 = .ok (.bipush 8, 2) := by decide +kernel
theorem dX7_erases_79 : decode cX7_erases 79 = .ok (.invokevirtual 219, 3) := by decide +kernel
theorem dX7_erases_82 : decode cX7_erases 82 = .ok (.ireturn, 1) := by decide +kernel
theorem dX7_erases_83 : decode cX7_erases 83 = .ok (.aload_n 0, 1) := by decide +kernel
theorem dX7_erases_84 : decode cX7_erases 84 = .ok (.iconst 0, 1) := by decide +kernel
theorem dX7_erases_85 : decode cX7_erases 85 = .ok (.putfield 121, 3) := by decide +kernel
theorem dX7_erases_88 : decode cX7_erases 88 = .ok (.aload_n 0, 1) := by decide +kernel
theorem dX7_erases_89 : decode cX7_erases 89 = .ok (.aload_n 0, 1) := by decide +kernel
theorem dX7_erases_90 : decode cX7_erases 90 = .ok (.getfield 222, 3) := by decide +kernel
theorem dX7_erases_93 : decode cX7_erases 93 = .ok (.aload_n 0, 1) := by decide +kernel
theorem dX7_erases_94 : decode cX7_erases 94 = .ok (.getfield 56, 3) := by decide +kernel
theorem dX7_erases_97 : decode cX7_erases 97 = .ok (.idiv, 1) := by decide +kernel
theorem dX7_erases_98 : decode cX7_erases 98 = .ok (.aload_n 0, 1) := by decide +kernel
theorem dX7_erases_99 : decode cX7_erases 99 = .ok (.getfield 228, 3) := by decide +kernel
theorem dX7_erases_102 : decode cX7_erases 102 = .ok (.aload_n 0, 1) := by decide +kernel
theorem dX7_erases_103 : decode cX7_erases 103 = .ok (.getfield 56, 3) := by decide +kernel
theorem dX7_erases_106 : decode cX7_erases 106 = .ok (.idiv, 1) := by decide +kernel
theorem dX7_erases_107 : decode cX7_erases 107 = .ok (.aload_n 0, 1) := by decide +kernel
theorem dX7_erases_108 : decode cX7_erases 108 = .ok (.getfield 222, 3) := by decide +kernel
theorem dX7_erases_111 : decode cX7_erases 111 = .ok (.aload_n 0, 1) := by decide +kernel
theorem dX7_erases_112 : decode cX7_erases 112 = .ok (.getfield 56, 3) := by decide +kernel
theorem dX7_erases_115 : decode cX7_erases 115 = .ok (.idiv, 1) := by decide +kernel
theorem dX7_erases_116 : decode cX7_erases 116 = .ok (.isub, 1) := by decide +kernel
theorem dX7_erases_117 : decode cX7_erases 117 = .ok (.iconst 1, 1) := by decide +kernel
theorem dX7_erases_118 : decode cX7_erases 118 = .ok (.iadd, 1) := by decide +kernel
theorem dX7_erases_119 : decode cX7_erases 119 = .ok (.invokevirtual 231, 3) := by decide +kernel
theorem dX7_erases_122 : decode cX7_erases 122 = .ok (.ireturn, 1) := by decide +kernel
theorem dX7_erases_123 : decode cX7_erases 123 = .ok (.aload_n 0, 1) := by decide +kernel
theorem dX7_erases_124 : decode cX7_erases 124 = .ok (.iload_n 2, 1) := by decide +kernel
theorem dX7_erases_125 : decode cX7_erases 125 = .ok (.invokevirtual 234, 3) := by decide +kernel
theorem dX7_erases_128 : decode cX7_erases 128 = .ok (.ireturn, 1) := by decide +kernel
set_option maxRecDepth 20000 in
theorem ggX7_endsAt_X7_noting : GoodIn wsX7_endsAt wsX7_noting := goodIn_r _ [9, 10, 11, 12, 13, 14, 15, 16, 17, 18, 19, 20, 21, 22, 23, 24, 25, 26, 27, 28, 29, 30, 31, 32, 33, 34, 35, 36, 37, 38, 39, 40, 41, 42, 43, 44, 45, 46, 47, 48] (by decide +kernel) (by decide +kernel)
set_option maxRecDepth 20000 in
theorem gX7_endsAt_X7_noting : GoodIn wsX7_endsAt (wsV RX7 219 RX7 yX7_noting wsX7_noting) := goodIn_app (goodIn_of _ (by decide +kernel)) ggX7_endsAt_X7_noting
theorem dX7_endsAt_0 : decode cX7_endsAt 0 = .ok (.aload_n 0, 1) := by decide +kernel
theorem dX7_endsAt_1 : decode cX7_endsAt 1 = .ok (.getfield 121, 3) := by decide +kernel
theorem dX7_endsAt_4 : decode cX7_endsAt 4 = .ok (.iconst 1, 1) := by decide +kernel
theorem dX7_endsAt_5 : decode cX7_endsAt 5 = .ok (.if_icmp .ne 7, 3) := by decide +kernel
theorem dX7_endsAt_8 : decode cX7_endsAt 8 = .ok (.iconst 1, 1) := by decide +kernel
theorem dX7_endsAt_9 : decode cX7_endsAt 9 = .ok (.goto 4, 3) := by decide +kernel
theorem dX7_endsAt_12 : decode cX7_endsAt 12 = .ok (.iconst 0, 1) := by decide +kernel
theorem dX7_endsAt_13 : decode cX7_endsAt 13 = .ok (.istore_n 2, 1) := by decide +kernel
theorem dX7_endsAt_14 : decode cX7_endsAt 14 = .ok (.aload_n 0, 1) := by decide +kernel
theorem dX7_endsAt_15 : decode cX7_endsAt 15 = .ok (.iconst 0, 1) := by decide +kernel
theorem dX7_endsAt_16 : decode cX7_endsAt 16 = .ok (.putfield 121, 3) := by decide +kernel
theorem dX7_endsAt_19 : decode cX7_endsAt 19 = .ok (.iload_n 1, 1) := by decide +kernel
theorem dX7_endsAt_20 : decode cX7_endsAt 20 = .ok (.aload_n 0, 1) := by decide +kernel
theorem dX7_endsAt_21 : decode cX7_endsAt 21 = .ok (.getfield 52, 3) := by decide +kernel
end
section
theorem dX7_endsAt_24 : decode cX7_endsAt 24 = .ok (.if_icmp .lt 9, 3) := by decide +kernel
theorem dX7_endsAt_27 : decode cX7_endsAt 27 = .ok (.aload_n 0, 1) := by decide +kernel
theorem dX7_endsAt_28 : decode cX7_endsAt 28 = .ok (.iconst 4, 1) := by decide +kernel
theorem dX7_endsAt_29 : decode cX7_endsAt 29 = .ok (.invokevirtual 219, 3) := by decide +kernel
theorem dX7_endsAt_32 : decode cX7_endsAt 32 = .ok (.ireturn, 1) := by decide +kernel
theorem dX7_endsAt_33 : decode cX7_endsAt 33 = .ok (.iload_n 2, 1) := by decide +kernel
theorem dX7_endsAt_34 : decode cX7_endsAt 34 = .ok (.ifCond .eq 11, 3) := by decide +kernel
theorem dX7_endsAt_37 : decode cX7_endsAt 37 = .ok (.iload_n 1, 1) := by decide +kernel
theorem dX7_endsAt_38 : decode cX7_endsAt 38 = .ok (.aload_n 0, 1) := by decide +kernel
theorem dX7_endsAt_39 : decode cX7_endsAt 39 = .ok (.getfield 222, 3) := by decide +kernel
theorem dX7_endsAt_42 : decode cX7_endsAt 42 = .ok (.if_icmp .ge 10, 3) := by decide +kernel
theorem dX7_endsAt_45 : decode cX7_endsAt 45 = .ok (.aload_n 0, 1) := by decide +kernel
theorem dX7_endsAt_46 : decode cX7_endsAt 46 = .ok (.bipush 8, 2) := by decide +kernel
theorem dX7_endsAt_48 : decode cX7_endsAt 48 = .ok (.invokevirtual 219, 3) := by decide +kernel
theorem dX7_endsAt_51 : decode cX7_endsAt 51 = .ok (.ireturn, 1) := by decide +kernel
theorem dX7_endsAt_52 : decode cX7_endsAt 52 = .ok (.aload_n 0, 1) := by decide +kernel
theorem dX7_endsAt_53 : decode cX7_endsAt 53 = .ok (.iload_n 1, 1) := by decide +kernel
theorem dX7_endsAt_54 : decode cX7_endsAt 54 = .ok (.putfield 228, 3) := by decide +kernel
theorem dX7_endsAt_57 : decode cX7_endsAt 57 = .ok (.aload_n 0, 1) := by decide +kernel
theorem dX7_endsAt_58 : decode cX7_endsAt 58 = .ok (.iconst 2, 1) := by decide +kernel
theorem dX7_endsAt_59 : decode cX7_endsAt 59 = .ok (.putfield 121, 3) := by decide +kernel
theorem dX7_endsAt_62 : decode cX7_endsAt 62 = .ok (.iconst 0, 1) := by decide +kernel
theorem dX7_endsAt_63 : decode cX7_endsAt 63 = .ok (.ireturn, 1) := by decide +kernel
theorem dX7_erasesGroups_0 : decode cX7_erasesGroups 0 = .ok (.aload_n 0, 1) := by decide +kernel
theorem dX7_erasesGroups_1 : decode cX7_erasesGroups 1 = .ok (.iload_n 1, 1) := by decide +kernel
theorem dX7_erasesGroups_2 : decode cX7_erasesGroups 2 = .ok (.putfield 141, 3) := by decide +kernel
theorem dX7_erasesGroups_5 : decode cX7_erasesGroups 5 = .ok (.aload_n 0, 1) := by decide +kernel
theorem dX7_erasesGroups_6 : decode cX7_erasesGroups 6 = .ok (.iload_n 2, 1) := by decide +kernel
theorem dX7_erasesGroups_7 : decode cX7_erasesGroups 7 = .ok (.putfield 109, 3) := by decide +kernel
theorem dX7_erasesGroups_10 : decode cX7_erasesGroups 10 = .ok (.aload_n 0, 1) := by decide +kernel
theorem dX7_erasesGroups_11 : decode cX7_erasesGroups 11 = .ok (.iconst 0, 1) := by decide +kernel
theorem dX7_erasesGroups_12 : decode cX7_erasesGroups 12 = .ok (.putfield 112, 3) := by decide +kernel
theorem dX7_erasesGroups_15 : decode cX7_erasesGroups 15 = .ok (.aload_n 0, 1) := by decide +kernel
theorem dX7_erasesGroups_16 : decode cX7_erasesGroups 16 = .ok (.bipush 7, 2) := by decide +kernel
theorem dX7_erasesGroups_18 : decode cX7_erasesGroups 18 = .ok (.putfield 85, 3) := by decide +kernel
theorem dX7_erasesGroups_21 : decode cX7_erasesGroups 21 = .ok (.iload_n 2, 1) := by decide +kernel
theorem dX7_erasesGroups_22 : decode cX7_erasesGroups 22 = .ok (.ireturn, 1) := by decide +kernel
set_option maxRecDepth 20000 in
theorem ggX7_isWord_X7_in : GoodIn wsX7_isWord wsX7_in := goodIn_r _ [8] (by decide +kernel) (by decide +kernel)
set_option maxRecDepth 20000 in
theorem gX7_isWord_X7_in : GoodIn wsX7_isWord (va_wsS RX7 42 yX7_in wsX7_in) := goodIn_app (goodIn_of _ (by decide +kernel)) ggX7_isWord_X7_in
theorem dX7_isWord_0 : decode cX7_isWord 0 = .ok (.aload_n 0, 1) := by decide +kernel
theorem dX7_isWord_1 : decode cX7_isWord 1 = .ok (.getfield 159, 3) := by decide +kernel
theorem dX7_isWord_4 : decode cX7_isWord 4 = .ok (.aload_n 0, 1) := by decide +kernel
theorem dX7_isWord_5 : decode cX7_isWord 5 = .ok (.getfield 71, 3) := by decide +kernel
theorem dX7_isWord_8 : decode cX7_isWord 8 = .ok (.isub, 1) := by decide +kernel
theorem dX7_isWord_9 : decode cX7_isWord 9 = .ok (.i2l, 1) := by decide +kernel
theorem dX7_isWord_10 : decode cX7_isWord 10 = .ok (.iload_n 1, 1) := by decide +kernel
theorem dX7_isWord_11 : decode cX7_isWord 11 = .ok (.i2l, 1) := by decide +kernel
theorem dX7_isWord_12 : decode cX7_isWord 12 = .ok (.iload_n 2, 1) := by decide +kernel
theorem dX7_isWord_13 : decode cX7_isWord 13 = .ok (.i2l, 1) := by decide +kernel
theorem dX7_isWord_14 : decode cX7_isWord 14 = .ok (.invokestatic 42, 3) := by decide +kernel
theorem dX7_isWord_17 : decode cX7_isWord 17 = .ok (.istore_n 3, 1) := by decide +kernel
theorem dX7_isWord_18 : decode cX7_isWord 18 = .ok (.iconst 0, 1) := by decide +kernel
theorem dX7_isWord_19 : decode cX7_isWord 19 = .ok (.istore 4, 2) := by decide +kernel
theorem dX7_isWord_21 : decode cX7_isWord 21 = .ok (.iload 4, 2) := by decide +kernel
theorem dX7_isWord_23 : decode cX7_isWord 23 = .ok (.aload_n 0, 1) := by decide +kernel
theorem dX7_isWord_24 : decode cX7_isWord 24 = .ok (.getfield 71, 3) := by decide +kernel
theorem dX7_isWord_27 : decode cX7_isWord 27 = .ok (.if_icmp .ge 36, 3) := by decide +kernel
theorem dX7_isWord_30 : decode cX7_isWord 30 = .ok (.iload_n 3, 1) := by decide +kernel
theorem dX7_isWord_31 : decode cX7_isWord 31 = .ok (.ifCond .eq 32, 3) := by decide +kernel
theorem dX7_isWord_34 : decode cX7_isWord 34 = .ok (.aload_n 0, 1) := by decide +kernel
theorem dX7_isWord_35 : decode cX7_isWord 35 = .ok (.getfield 7, 3) := by decide +kernel
theorem dX7_isWord_38 : decode cX7_isWord 38 = .ok (.iload 4, 2) := by decide +kernel
theorem dX7_isWord_40 : decode cX7_isWord 40 = .ok (.iaload, 1) := by decide +kernel
theorem dX7_isWord_41 : decode cX7_isWord 41 = .ok (.aload_n 0, 1) := by decide +kernel
theorem dX7_isWord_42 : decode cX7_isWord 42 = .ok (.getfield 19, 3) := by decide +kernel
theorem dX7_isWord_45 : decode cX7_isWord 45 = .ok (.iload 4, 2) := by decide +kernel
theorem dX7_isWord_47 : decode cX7_isWord 47 = .ok (.iaload, 1) := by decide +kernel
theorem dX7_isWord_48 : decode cX7_isWord 48 = .ok (.if_icmp .ne 7, 3) := by decide +kernel
theorem dX7_isWord_51 : decode cX7_isWord 51 = .ok (.iconst 1, 1) := by decide +kernel
theorem dX7_isWord_52 : decode cX7_isWord 52 = .ok (.goto 4, 3) := by decide +kernel
theorem dX7_isWord_55 : decode cX7_isWord 55 = .ok (.iconst 0, 1) := by decide +kernel
theorem dX7_isWord_56 : decode cX7_isWord 56 = .ok (.istore_n 3, 1) := by decide +kernel
theorem dX7_isWord_57 : decode cX7_isWord 57 = .ok (.iinc 4 1, 3) := by decide +kernel
theorem dX7_isWord_60 : decode cX7_isWord 60 = .ok (.goto (-39), 3) := by decide +kernel
theorem dX7_isWord_63 : decode cX7_isWord 63 = .ok (.iload_n 3, 1) := by decide +kernel
theorem dX7_isWord_64 : decode cX7_isWord 64 = .ok (.ireturn, 1) := by decide +kernel
set_option maxRecDepth 20000 in
theorem ggX7_sets_X7_isWord : GoodIn wsX7_sets wsX7_isWord := goodIn_r _ [10, 3, 2, 5, 4, 11, 12, 9, 13, 14, 15, 16, 17, 18, 19, 20, 21, 22, 23, 24, 25, 26, 27, 28, 29, 30, 31, 32, 33, 34, 35, 36, 37, 38, 39, 40, 41, 42, 43, 44, 45, 46, 47, 48, 49, 50, 51] (by decide +kernel) (by decide +kernel)
set_option maxRecDepth 20000 in
theorem gX7_sets_X7_isWord : GoodIn wsX7_sets (wsV RX7 237 RX7 yX7_isWord wsX7_isWord) := goodIn_app (goodIn_of _ (by decide +kernel)) ggX7_sets_X7_isWord
theorem dX7_sets_0 : decode cX7_sets 0 = .ok (.aload_n 0, 1) := by decide +kernel
theorem dX7_sets_1 : decode cX7_sets 1 = .ok (.getfield 100, 3) := by decide +kernel
theorem dX7_sets_4 : decode cX7_sets 4 = .ok (.ifCond .ne 13, 3) := by decide +kernel
theorem dX7_sets_7 : decode cX7_sets 7 = .ok (.aload_n 0, 1) := by decide +kernel
theorem dX7_sets_8 : decode cX7_sets 8 = .ok (.iconst 1, 1) := by decide +kernel
theorem dX7_sets_9 : decode cX7_sets 9 = .ok (.bipush 8, 2) := by decide +kernel
theorem dX7_sets_11 : decode cX7_sets 11 = .ok (.invokevirtual 237, 3) := by decide +kernel
theorem dX7_sets_14 : decode cX7_sets 14 = .ok (.ifCond .ne 5, 3) := by decide +kernel
theorem dX7_sets_17 : decode cX7_sets 17 = .ok (.iconst 0, 1) := by decide +kernel
theorem dX7_sets_18 : decode cX7_sets 18 = .ok (.ireturn, 1) := by decide +kernel
theorem dX7_sets_19 : decode cX7_sets 19 = .ok (.aload_n 0, 1) := by decide +kernel
theorem dX7_sets_20 : decode cX7_sets 20 = .ok (.getfield 71, 3) := by decide +kernel
theorem dX7_sets_23 : decode cX7_sets 23 = .ok (.istore_n 1, 1) := by decide +kernel
theorem dX7_sets_24 : decode cX7_sets 24 = .ok (.aload_n 0, 1) := by decide +kernel
theorem dX7_sets_25 : decode cX7_sets 25 = .ok (.aload_n 0, 1) := by decide +kernel
theorem dX7_sets_26 : decode cX7_sets 26 = .ok (.getfield 159, 3) := by decide +kernel
theorem dX7_sets_29 : decode cX7_sets 29 = .ok (.iload_n 1, 1) := by decide +kernel
theorem dX7_sets_30 : decode cX7_sets 30 = .ok (.isub, 1) := by decide +kernel
theorem dX7_sets_31 : decode cX7_sets 31 = .ok (.putfield 71, 3) := by decide +kernel
theorem dX7_sets_34 : decode cX7_sets 34 = .ok (.iconst 0, 1) := by decide +kernel
theorem dX7_sets_35 : decode cX7_sets 35 = .ok (.istore_n 2, 1) := by decide +kernel
theorem dX7_sets_36 : decode cX7_sets 36 = .ok (.iload_n 2, 1) := by decide +kernel
theorem dX7_sets_37 : decode cX7_sets 37 = .ok (.aload_n 0, 1) := by decide +kernel
theorem dX7_sets_38 : decode cX7_sets 38 = .ok (.getfield 71, 3) := by decide +kernel
theorem dX7_sets_41 : decode cX7_sets 41 = .ok (.if_icmp .ge 23, 3) := by decide +kernel
theorem dX7_sets_44 : decode cX7_sets 44 = .ok (.aload_n 0, 1) := by decide +kernel
theorem dX7_sets_45 : decode cX7_sets 45 = .ok (.getfield 19, 3) := by decide +kernel
theorem dX7_sets_48 : decode cX7_sets 48 = .ok (.iload_n 2, 1) := by decide +kernel
theorem dX7_sets_49 : decode cX7_sets 49 = .ok (.aload_n 0, 1) := by decide +kernel
theorem dX7_sets_50 : decode cX7_sets 50 = .ok (.getfield 7, 3) := by decide +kernel
theorem dX7_sets_53 : decode cX7_sets 53 = .ok (.iload_n 1, 1) := by decide +kernel
theorem dX7_sets_54 : decode cX7_sets 54 = .ok (.iload_n 2, 1) := by decide +kernel
theorem dX7_sets_55 : decode cX7_sets 55 = .ok (.iadd, 1) := by decide +kernel
theorem dX7_sets_56 : decode cX7_sets 56 = .ok (.iaload, 1) := by decide +kernel
theorem dX7_sets_57 : decode cX7_sets 57 = .ok (.iastore, 1) := by decide +kernel
theorem dX7_sets_58 : decode cX7_sets 58 = .ok (.iinc 2 1, 3) := by decide +kernel
theorem dX7_sets_61 : decode cX7_sets 61 = .ok (.goto (-25), 3) := by decide +kernel
theorem dX7_sets_64 : decode cX7_sets 64 = .ok (.iconst 1, 1) := by decide +kernel
theorem dX7_sets_65 : decode cX7_sets 65 = .ok (.ireturn, 1) := by decide +kernel
set_option maxRecDepth 20000 in
theorem ggX7_locks_X7_isWord : GoodIn wsX7_locks wsX7_isWord := goodIn_r _ [7, 8, 2, 9, 10, 11, 12, 6, 13, 37, 38, 39, 40, 41, 42, 43, 44, 45, 46, 47, 48, 49, 50, 51, 52, 53, 54, 55, 56, 57, 58, 59, 60, 61, 62, 63, 64, 65, 66, 67, 68, 69, 70, 71, 72, 73, 74] (by decide +kernel) (by decide +kernel)
set_option maxRecDepth 20000 in
theorem gX7_locks_X7_isWord : GoodIn wsX7_locks (wsV RX7 237 RX7 yX7_isWord wsX7_isWord) := goodIn_app (goodIn_of _ (by decide +kernel)) ggX7_locks_X7_isWord
set_option maxRecDepth 20000 in
theorem ggX7_locks_X7_sets : GoodIn wsX7_locks wsX7_sets := goodIn_r _ [17, 1, 2, 8, 10, 9, 3, 4, 5, 6, 7, 11, 12, 13, 37, 38, 39, 40, 41, 42, 43, 44, 45, 46, 47, 48, 49, 50, 51, 52, 53, 54, 55, 56, 57, 58, 59, 60, 61, 62, 63, 64, 65, 66, 67, 68, 69, 70, 71, 72, 73, 74] (by decide +kernel) (by decide +kernel)
set_option maxRecDepth 20000 in
theorem gX7_locks_X7_sets : GoodIn wsX7_locks (wsV RX7 241 RX7 yX7_sets wsX7_sets) := goodIn_app (goodIn_of _ (by decide +kernel)) ggX7_locks_X7_sets
set_option maxRecDepth 20000 in
theorem ggX7_locks_X7_groups : GoodIn wsX7_locks wsX7_groups := goodIn_r _ [21, 22, 23, 37, 38, 39, 40, 41, 42, 43, 44, 45, 46, 47, 48, 49, 50, 51, 52, 53, 54, 55, 56, 57, 58, 59, 60, 61, 62, 63, 64, 65, 66, 67, 68, 69, 70, 71, 72, 73, 74] (by decide +kernel) (by decide +kernel)
set_option maxRecDepth 20000 in
theorem gX7_locks_X7_groups : GoodIn wsX7_locks (wsV RX7 244 RX7 yX7_groups wsX7_groups) := goodIn_app (goodIn_of _ (by decide +kernel)) ggX7_locks_X7_groups
set_option maxRecDepth 20000 in
theorem ggX7_locks_X7_erasesGroups : GoodIn wsX7_locks wsX7_erasesGroups := goodIn_r _ [27, 28, 29, 30, 31, 37, 38, 39, 40, 41, 42, 43, 44, 45, 46, 47, 48, 49, 50, 51, 52, 53, 54, 55, 56, 57, 58, 59, 60, 61, 62, 63, 64, 65, 66, 67, 68, 69, 70, 71, 72, 73, 74] (by decide +kernel) (by decide +kernel)
set_option maxRecDepth 20000 in
theorem gX7_locks_X7_erasesGroups : GoodIn wsX7_locks (wsV RX7 231 RX7 yX7_erasesGroups wsX7_erasesGroups) := goodIn_app (goodIn_of _ (by decide +kernel)) ggX7_locks_X7_erasesGroups
set_option maxRecDepth 20000 in
theorem ggX7_locks_X7_noting : GoodIn wsX7_locks wsX7_noting := goodIn_r _ [35, 36, 37, 38, 39, 40, 41, 42, 43, 44, 45, 46, 47, 48, 49, 50, 51, 52, 53, 54, 55, 56, 57, 58, 59, 60, 61, 62, 63, 64, 65, 66, 67, 68, 69, 70, 71, 72, 73, 74] (by decide +kernel) (by decide +kernel)
set_option maxRecDepth 20000 in
theorem gX7_locks_X7_noting : GoodIn wsX7_locks (wsV RX7 219 RX7 yX7_noting wsX7_noting) := goodIn_app (goodIn_of _ (by decide +kernel)) ggX7_locks_X7_noting
theorem dX7_locks_0 : decode cX7_locks 0 = .ok (.iconst 0, 1) := by decide +kernel
theorem dX7_locks_1 : decode cX7_locks 1 = .ok (.istore_n 2, 1) := by decide +kernel
theorem dX7_locks_2 : decode cX7_locks 2 = .ok (.iload_n 1, 1) := by decide +kernel
theorem dX7_locks_3 : decode cX7_locks 3 = .ok (.tableswitch 232 0 8 #[49, 94, 127, 232, 127, 94, 232, 232, 205], 49) := by decide +kernel
theorem dX7_locks_52 : decode cX7_locks 52 = .ok (.aload_n 0, 1) := by decide +kernel
theorem dX7_locks_53 : decode cX7_locks 53 = .ok (.getfield 100, 3) := by decide +kernel
theorem dX7_locks_56 : decode cX7_locks 56 = .ok (.ifCond .eq 16, 3) := by decide +kernel
theorem dX7_locks_59 : decode cX7_locks 59 = .ok (.aload_n 0, 1) := by decide +kernel
theorem dX7_locks_60 : decode cX7_locks 60 = .ok (.iconst 0, 1) := by decide +kernel
theorem dX7_locks_61 : decode cX7_locks 61 = .ok (.iconst 0, 1) := by decide +kernel
theorem dX7_locks_62 : decode cX7_locks 62 = .ok (.invokevirtual 237, 3) := by decide +kernel
theorem dX7_locks_65 : decode cX7_locks 65 = .ok (.ifCond .eq 7, 3) := by decide +kernel
theorem dX7_locks_68 : decode cX7_locks 68 = .ok (.iconst 1, 1) := by decide +kernel
theorem dX7_locks_69 : decode cX7_locks 69 = .ok (.goto 4, 3) := by decide +kernel
theorem dX7_locks_72 : decode cX7_locks 72 = .ok (.iconst 0, 1) := by decide +kernel
theorem dX7_locks_73 : decode cX7_locks 73 = .ok (.istore_n 2, 1) := by decide +kernel
theorem dX7_locks_74 : decode cX7_locks 74 = .ok (.aload_n 0, 1) := by decide +kernel
theorem dX7_locks_75 : decode cX7_locks 75 = .ok (.aload_n 0, 1) := by decide +kernel
theorem dX7_locks_76 : decode cX7_locks 76 = .ok (.getfield 100, 3) := by decide +kernel
theorem dX7_locks_79 : decode cX7_locks 79 = .ok (.ifCond .eq 11, 3) := by decide +kernel
theorem dX7_locks_82 : decode cX7_locks 82 = .ok (.iload_n 2, 1) := by decide +kernel
theorem dX7_locks_83 : decode cX7_locks 83 = .ok (.ifCond .ne 7, 3) := by decide +kernel
theorem dX7_locks_86 : decode cX7_locks 86 = .ok (.iconst 1, 1) := by decide +kernel
theorem dX7_locks_87 : decode cX7_locks 87 = .ok (.goto 4, 3) := by decide +kernel
theorem dX7_locks_90 : decode cX7_locks 90 = .ok (.iconst 0, 1) := by decide +kernel
theorem dX7_locks_91 : decode cX7_locks 91 = .ok (.putfield 100, 3) := by decide +kernel
theorem dX7_locks_94 : decode cX7_locks 94 = .ok (.goto 141, 3) := by decide +kernel
theorem dX7_locks_97 : decode cX7_locks 97 = .ok (.aload_n 0, 1) := by decide +kernel
theorem dX7_locks_98 : decode cX7_locks 98 = .ok (.invokevirtual 241, 3) := by decide +kernel
theorem dX7_locks_101 : decode cX7_locks 101 = .ok (.istore_n 2, 1) := by decide +kernel
theorem dX7_locks_102 : decode cX7_locks 102 = .ok (.aload_n 0, 1) := by decide +kernel
theorem dX7_locks_103 : decode cX7_locks 103 = .ok (.aload_n 0, 1) := by decide +kernel
theorem dX7_locks_104 : decode cX7_locks 104 = .ok (.getfield 100, 3) := by decide +kernel
theorem dX7_locks_107 : decode cX7_locks 107 = .ok (.ifCond .ne 12, 3) := by decide +kernel
theorem dX7_locks_110 : decode cX7_locks 110 = .ok (.iload_n 2, 1) := by decide +kernel
theorem dX7_locks_111 : decode cX7_locks 111 = .ok (.ifCond .eq 12, 3) := by decide +kernel
theorem dX7_locks_114 : decode cX7_locks 114 = .ok (.iload_n 1, 1) := by decide +kernel
theorem dX7_locks_115 : decode cX7_locks 115 = .ok (.iconst 5, 1) := by decide +kernel
theorem dX7_locks_116 : decode cX7_locks 116 = .ok (.if_icmp .ne 7, 3) := by decide +kernel
theorem dX7_locks_119 : decode cX7_locks 119 = .ok (.iconst 1, 1) := by decide +kernel
theorem dX7_locks_120 : decode cX7_locks 120 = .ok (.goto 4, 3) := by decide +kernel
theorem dX7_locks_123 : decode cX7_locks 123 = .ok (.iconst 0, 1) := by decide +kernel
theorem dX7_locks_124 : decode cX7_locks 124 = .ok (.putfield 100, 3) := by decide +kernel
theorem dX7_locks_127 : decode cX7_locks 127 = .ok (.goto 108, 3) := by decide +kernel
theorem dX7_locks_130 : decode cX7_locks 130 = .ok (.aload_n 0, 1) := by decide +kernel
theorem dX7_locks_131 : decode cX7_locks 131 = .ok (.getfield 100, 3) := by decide +kernel
theorem dX7_locks_134 : decode cX7_locks 134 = .ok (.ifCond .ne 23, 3) := by decide +kernel
theorem dX7_locks_137 : decode cX7_locks 137 = .ok (.aload_n 0, 1) := by decide +kernel
theorem dX7_locks_138 : decode cX7_locks 138 = .ok (.getfield 71, 3) := by decide +kernel
theorem dX7_locks_141 : decode cX7_locks 141 = .ok (.ifCond .le 16, 3) := by decide +kernel
theorem dX7_locks_144 : decode cX7_locks 144 = .ok (.aload_n 0, 1) := by decide +kernel
theorem dX7_locks_145 : decode cX7_locks 145 = .ok (.iconst 0, 1) := by decide +kernel
theorem dX7_locks_146 : decode cX7_locks 146 = .ok (.iconst 0, 1) := by decide +kernel
theorem dX7_locks_147 : decode cX7_locks 147 = .ok (.invokevirtual 237, 3) := by decide +kernel
theorem dX7_locks_150 : decode cX7_locks 150 = .ok (.ifCond .eq 7, 3) := by decide +kernel
theorem dX7_locks_153 : decode cX7_locks 153 = .ok (.iconst 1, 1) := by decide +kernel
theorem dX7_locks_154 : decode cX7_locks 154 = .ok (.goto 4, 3) := by decide +kernel
theorem dX7_locks_157 : decode cX7_locks 157 = .ok (.iconst 0, 1) := by decide +kernel
theorem dX7_locks_158 : decode cX7_locks 158 = .ok (.istore_n 2, 1) := by decide +kernel
theorem dX7_locks_159 : decode cX7_locks 159 = .ok (.aload_n 0, 1) := by decide +kernel
theorem dX7_locks_160 : decode cX7_locks 160 = .ok (.aload_n 0, 1) := by decide +kernel
theorem dX7_locks_161 : decode cX7_locks 161 = .ok (.getfield 100, 3) := by decide +kernel
theorem dX7_locks_164 : decode cX7_locks 164 = .ok (.ifCond .ne 12, 3) := by decide +kernel
theorem dX7_locks_167 : decode cX7_locks 167 = .ok (.iload_n 2, 1) := by decide +kernel
theorem dX7_locks_168 : decode cX7_locks 168 = .ok (.ifCond .eq 12, 3) := by decide +kernel
theorem dX7_locks_171 : decode cX7_locks 171 = .ok (.iload_n 1, 1) := by decide +kernel
theorem dX7_locks_172 : decode cX7_locks 172 = .ok (.iconst 4, 1) := by decide +kernel
theorem dX7_locks_173 : decode cX7_locks 173 = .ok (.if_icmp .ne 7, 3) := by decide +kernel
theorem dX7_locks_176 : decode cX7_locks 176 = .ok (.iconst 1, 1) := by decide +kernel
theorem dX7_locks_177 : decode cX7_locks 177 = .ok (.goto 4, 3) := by decide +kernel
theorem dX7_locks_180 : decode cX7_locks 180 = .ok (.iconst 0, 1) := by decide +kernel
theorem dX7_locks_181 : decode cX7_locks 181 = .ok (.putfield 100, 3) := by decide +kernel
theorem dX7_locks_184 : decode cX7_locks 184 = .ok (.aload_n 0, 1) := by decide +kernel
theorem dX7_locks_185 : decode cX7_locks 185 = .ok (.iload_n 2, 1) := by decide +kernel
theorem dX7_locks_186 : decode cX7_locks 186 = .ok (.ifCond .eq 12, 3) := by decide +kernel
theorem dX7_locks_189 : decode cX7_locks 189 = .ok (.iload_n 1, 1) := by decide +kernel
theorem dX7_locks_190 : decode cX7_locks 190 = .ok (.iconst 2, 1) := by decide +kernel
theorem dX7_locks_191 : decode cX7_locks 191 = .ok (.if_icmp .ne 7, 3) := by decide +kernel
theorem dX7_locks_194 : decode cX7_locks 194 = .ok (.iconst 0, 1) := by decide +kernel
theorem dX7_locks_195 : decode cX7_locks 195 = .ok (.goto 7, 3) := by decide +kernel
theorem dX7_locks_198 : decode cX7_locks 198 = .ok (.aload_n 0, 1) := by decide +kernel
theorem dX7_locks_199 : decode cX7_locks 199 = .ok (.getfield 71, 3) := by decide +kernel
theorem dX7_locks_202 : decode cX7_locks 202 = .ok (.putfield 71, 3) := by decide +kernel
theorem dX7_locks_205 : decode cX7_locks 205 = .ok (.goto 30, 3) := by decide +kernel
theorem dX7_locks_208 : decode cX7_locks 208 = .ok (.aload_n 0, 1) := by decide +kernel
theorem dX7_locks_209 : decode cX7_locks 209 = .ok (.getfield 100, 3) := by decide +kernel
theorem dX7_locks_212 : decode cX7_locks 212 = .ok (.ifCond .eq 23, 3) := by decide +kernel
theorem dX7_locks_215 : decode cX7_locks 215 = .ok (.aload_n 0, 1) := by decide +kernel
theorem dX7_locks_216 : decode cX7_locks 216 = .ok (.iconst 0, 1) := by decide +kernel
theorem dX7_locks_217 : decode cX7_locks 217 = .ok (.putfield 71, 3) := by decide +kernel
theorem dX7_locks_220 : decode cX7_locks 220 = .ok (.aload_n 0, 1) := by decide +kernel
theorem dX7_locks_221 : decode cX7_locks 221 = .ok (.iconst 0, 1) := by decide +kernel
theorem dX7_locks_222 : decode cX7_locks 222 = .ok (.putfield 100, 3) := by decide +kernel
theorem dX7_locks_225 : decode cX7_locks 225 = .ok (.aload_n 0, 1) := by decide +kernel
theorem dX7_locks_226 : decode cX7_locks 226 = .ok (.iconst 0, 1) := by decide +kernel
theorem dX7_locks_227 : decode cX7_locks 227 = .ok (.aload_n 0, 1) := by decide +kernel
theorem dX7_locks_228 : decode cX7_locks 228 = .ok (.invokevirtual 244, 3) := by decide +kernel
theorem dX7_locks_231 : decode cX7_locks 231 = .ok (.invokevirtual 231, 3) := by decide +kernel
theorem dX7_locks_234 : decode cX7_locks 234 = .ok (.ireturn, 1) := by decide +kernel
theorem dX7_locks_235 : decode cX7_locks 235 = .ok (.iload_n 2, 1) := by decide +kernel
theorem dX7_locks_236 : decode cX7_locks 236 = .ok (.ifCond .eq 7, 3) := by decide +kernel
theorem dX7_locks_239 : decode cX7_locks 239 = .ok (.iconst 1, 1) := by decide +kernel
theorem dX7_locks_240 : decode cX7_locks 240 = .ok (.goto 9, 3) := by decide +kernel
theorem dX7_locks_243 : decode cX7_locks 243 = .ok (.aload_n 0, 1) := by decide +kernel
theorem dX7_locks_244 : decode cX7_locks 244 = .ok (.bipush 16, 2) := by decide +kernel
theorem dX7_locks_246 : decode cX7_locks 246 = .ok (.invokevirtual 219, 3) := by decide +kernel
theorem dX7_locks_249 : decode cX7_locks 249 = .ok (.ireturn, 1) := by decide +kernel
set_option maxRecDepth 20000 in
theorem ggX7_give_X7_in : GoodIn wsX7_give wsX7_in := goodIn_r _ [17] (by decide +kernel) (by decide +kernel)
set_option maxRecDepth 20000 in
theorem gX7_give_X7_in : GoodIn wsX7_give (va_wsS RX7 42 yX7_in wsX7_in) := goodIn_app (goodIn_of _ (by decide +kernel)) ggX7_give_X7_in
set_option maxRecDepth 20000 in
theorem ggX7_give_X7_noting : GoodIn wsX7_give wsX7_noting := goodIn_r _ [21, 10, 36, 37, 38, 39, 40, 41, 42, 43, 44, 45, 46, 47, 48, 49, 50, 51, 52, 53, 54, 55, 56, 57, 58, 59, 60, 61, 62, 63, 64, 65, 66, 67, 68, 69, 70, 71, 72, 73] (by decide +kernel) (by decide +kernel)
set_option maxRecDepth 20000 in
theorem gX7_give_X7_noting : GoodIn wsX7_give (wsV RX7 219 RX7 yX7_noting wsX7_noting) := goodIn_app (goodIn_of _ (by decide +kernel)) ggX7_give_X7_noting
set_option maxRecDepth 20000 in
theorem ggX7_give_X7_isInWindow : GoodIn wsX7_give wsX7_isInWindow := goodIn_r _ [25, 26, 27, 28, 36, 37, 38, 39, 40, 41, 42, 43, 44, 45, 46, 47, 48, 49, 50, 51, 52, 53, 54, 55, 56, 57, 58, 59, 60, 61, 62, 63, 64, 65, 66, 67, 68, 69, 70, 71, 72, 73] (by decide +kernel) (by decide +kernel)
set_option maxRecDepth 20000 in
theorem gX7_give_X7_isInWindow : GoodIn wsX7_give (wsV RX7 212 RX7 yX7_isInWindow wsX7_isInWindow) := goodIn_app (goodIn_of _ (by decide +kernel)) ggX7_give_X7_isInWindow
set_option maxRecDepth 20000 in
theorem ggX7_give_X7_checkOf : GoodIn wsX7_give wsX7_checkOf := goodIn_r _ [32, 1, 14, 15, 16, 17, 33, 34, 35] (by decide +kernel) (by decide +kernel)
set_option maxRecDepth 20000 in
theorem gX7_give_X7_checkOf : GoodIn wsX7_give (wsV RX7 247 RX7 yX7_checkOf wsX7_checkOf) := goodIn_app (goodIn_of _ (by decide +kernel)) ggX7_give_X7_checkOf
theorem dX7_give_0 : decode cX7_give 0 = .ok (.iload_n 1, 1) := by decide +kernel
theorem dX7_give_1 : decode cX7_give 1 = .ok (.i2l, 1) := by decide +kernel
theorem dX7_give_2 : decode cX7_give 2 = .ok (.lconst 0, 1) := by decide +kernel
theorem dX7_give_3 : decode cX7_give 3 = .ok (.ldc2_w 50, 3) := by decide +kernel
theorem dX7_give_6 : decode cX7_give 6 = .ok (.invokestatic 42, 3) := by decide +kernel
theorem dX7_give_9 : decode cX7_give 9 = .ok (.ifCond .eq 15, 3) := by decide +kernel
theorem dX7_give_12 : decode cX7_give 12 = .ok (.iload_n 2, 1) := by decide +kernel
theorem dX7_give_13 : decode cX7_give 13 = .ok (.i2l, 1) := by decide +kernel
theorem dX7_give_14 : decode cX7_give 14 = .ok (.lconst 0, 1) := by decide +kernel
theorem dX7_give_15 : decode cX7_give 15 = .ok (.ldc2_w 177, 3) := by decide +kernel
theorem dX7_give_18 : decode cX7_give 18 = .ok (.invokestatic 42, 3) := by decide +kernel
theorem dX7_give_21 : decode cX7_give 21 = .ok (.ifCond .ne 5, 3) := by decide +kernel
theorem dX7_give_24 : decode cX7_give 24 = .ok (.iconst (-1), 1) := by decide +kernel
theorem dX7_give_25 : decode cX7_give 25 = .ok (.ireturn, 1) := by decide +kernel
theorem dX7_give_26 : decode cX7_give 26 = .ok (.aload_n 0, 1) := by decide +kernel
theorem dX7_give_27 : decode cX7_give 27 = .ok (.getfield 78, 3) := by decide +kernel
theorem dX7_give_30 : decode cX7_give 30 = .ok (.ifCond .eq 26, 3) := by decide +kernel
theorem dX7_give_33 : decode cX7_give 33 = .ok (.aload_n 0, 1) := by decide +kernel
theorem dX7_give_34 : decode cX7_give 34 = .ok (.getfield 85, 3) := by decide +kernel
theorem dX7_give_37 : decode cX7_give 37 = .ok (.bipush 6, 2) := by decide +kernel
theorem dX7_give_39 : decode cX7_give 39 = .ok (.if_icmp .ne 17, 3) := by decide +kernel
theorem dX7_give_42 : decode cX7_give 42 = .ok (.aload_n 0, 1) := by decide +kernel
theorem dX7_give_43 : decode cX7_give 43 = .ok (.getfield 130, 3) := by decide +kernel
theorem dX7_give_46 : decode cX7_give 46 = .ok (.ifCond .ne 10, 3) := by decide +kernel
theorem dX7_give_49 : decode cX7_give 49 = .ok (.aload_n 0, 1) := by decide +kernel
theorem dX7_give_50 : decode cX7_give 50 = .ok (.getfield 127, 3) := by decide +kernel
theorem dX7_give_53 : decode cX7_give 53 = .ok (.ifCond .ne 6, 3) := by decide +kernel
theorem dX7_give_56 : decode cX7_give 56 = .ok (.bipush (-2), 2) := by decide +kernel
theorem dX7_give_58 : decode cX7_give 58 = .ok (.ireturn, 1) := by decide +kernel
theorem dX7_give_59 : decode cX7_give 59 = .ok (.aload_n 0, 1) := by decide +kernel
theorem dX7_give_60 : decode cX7_give 60 = .ok (.getfield 124, 3) := by decide +kernel
theorem dX7_give_63 : decode cX7_give 63 = .ok (.aload_n 0, 1) := by decide +kernel
theorem dX7_give_64 : decode cX7_give 64 = .ok (.getfield 52, 3) := by decide +kernel
theorem dX7_give_67 : decode cX7_give 67 = .ok (.if_icmp .lt 9, 3) := by decide +kernel
theorem dX7_give_70 : decode cX7_give 70 = .ok (.aload_n 0, 1) := by decide +kernel
theorem dX7_give_71 : decode cX7_give 71 = .ok (.iconst 4, 1) := by decide +kernel
theorem dX7_give_72 : decode cX7_give 72 = .ok (.invokevirtual 219, 3) := by decide +kernel
theorem dX7_give_75 : decode cX7_give 75 = .ok (.ireturn, 1) := by decide +kernel
theorem dX7_give_76 : decode cX7_give 76 = .ok (.aload_n 0, 1) := by decide +kernel
theorem dX7_give_77 : decode cX7_give 77 = .ok (.getfield 106, 3) := by decide +kernel
theorem dX7_give_80 : decode cX7_give 80 = .ok (.iconst 2, 1) := by decide +kernel
theorem dX7_give_81 : decode cX7_give 81 = .ok (.if_icmp .ne 6, 3) := by decide +kernel
theorem dX7_give_84 : decode cX7_give 84 = .ok (.bipush (-3), 2) := by decide +kernel
theorem dX7_give_86 : decode cX7_give 86 = .ok (.ireturn, 1) := by decide +kernel
theorem dX7_give_87 : decode cX7_give 87 = .ok (.aload_n 0, 1) := by decide +kernel
theorem dX7_give_88 : decode cX7_give 88 = .ok (.invokevirtual 212, 3) := by decide +kernel
theorem dX7_give_91 : decode cX7_give 91 = .ok (.ifCond .eq 12, 3) := by decide +kernel
theorem dX7_give_94 : decode cX7_give 94 = .ok (.iload_n 2, 1) := by decide +kernel
theorem dX7_give_95 : decode cX7_give 95 = .ok (.aload_n 0, 1) := by decide +kernel
theorem dX7_give_96 : decode cX7_give 96 = .ok (.iload_n 1, 1) := by decide +kernel
theorem dX7_give_97 : decode cX7_give 97 = .ok (.invokevirtual 247, 3) := by decide +kernel
theorem dX7_give_100 : decode cX7_give 100 = .ok (.if_icmp .eq 21, 3) := by decide +kernel
theorem dX7_give_103 : decode cX7_give 103 = .ok (.aload_n 0, 1) := by decide +kernel
theorem dX7_give_104 : decode cX7_give 104 = .ok (.dup, 1) := by decide +kernel
theorem dX7_give_105 : decode cX7_give 105 = .ok (.getfield 103, 3) := by decide +kernel
theorem dX7_give_108 : decode cX7_give 108 = .ok (.bipush 64, 2) := by decide +kernel
theorem dX7_give_110 : decode cX7_give 110 = .ok (.ior, 1) := by decide +kernel
theorem dX7_give_111 : decode cX7_give 111 = .ok (.putfield 103, 3) := by decide +kernel
theorem dX7_give_114 : decode cX7_give 114 = .ok (.aload_n 0, 1) := by decide +kernel
theorem dX7_give_115 : decode cX7_give 115 = .ok (.iconst 1, 1) := by decide +kernel
theorem dX7_give_116 : decode cX7_give 116 = .ok (.putfield 130, 3) := by decide +kernel
theorem dX7_give_119 : decode cX7_give 119 = .ok (.iconst 0, 1) := by decide +kernel
theorem dX7_give_120 : decode cX7_give 120 = .ok (.ireturn, 1) := by decide +kernel
theorem dX7_give_121 : decode cX7_give 121 = .ok (.aload_n 0, 1) := by decide +kernel
theorem dX7_give_122 : decode cX7_give 122 = .ok (.getfield 25, 3) := by decide +kernel
theorem dX7_give_125 : decode cX7_give 125 = .ok (.aload_n 0, 1) := by decide +kernel
theorem dX7_give_126 : decode cX7_give 126 = .ok (.getfield 106, 3) := by decide +kernel
theorem dX7_give_129 : decode cX7_give 129 = .ok (.aload_n 0, 1) := by decide +kernel
theorem dX7_give_130 : decode cX7_give 130 = .ok (.getfield 124, 3) := by decide +kernel
theorem dX7_give_133 : decode cX7_give 133 = .ok (.iastore, 1) := by decide +kernel
theorem dX7_give_134 : decode cX7_give 134 = .ok (.aload_n 0, 1) := by decide +kernel
theorem dX7_give_135 : decode cX7_give 135 = .ok (.getfield 28, 3) := by decide +kernel
theorem dX7_give_138 : decode cX7_give 138 = .ok (.aload_n 0, 1) := by decide +kernel
theorem dX7_give_139 : decode cX7_give 139 = .ok (.getfield 106, 3) := by decide +kernel
theorem dX7_give_142 : decode cX7_give 142 = .ok (.iload_n 1, 1) := by decide +kernel
theorem dX7_give_143 : decode cX7_give 143 = .ok (.iastore, 1) := by decide +kernel
theorem dX7_give_144 : decode cX7_give 144 = .ok (.aload_n 0, 1) := by decide +kernel
theorem dX7_give_145 : decode cX7_give 145 = .ok (.getfield 31, 3) := by decide +kernel
theorem dX7_give_148 : decode cX7_give 148 = .ok (.aload_n 0, 1) := by decide +kernel
theorem dX7_give_149 : decode cX7_give 149 = .ok (.getfield 106, 3) := by decide +kernel
theorem dX7_give_152 : decode cX7_give 152 = .ok (.iconst 0, 1) := by decide +kernel
theorem dX7_give_153 : decode cX7_give 153 = .ok (.iastore, 1) := by decide +kernel
theorem dX7_give_154 : decode cX7_give 154 = .ok (.aload_n 0, 1) := by decide +kernel
theorem dX7_give_155 : decode cX7_give 155 = .ok (.dup, 1) := by decide +kernel
theorem dX7_give_156 : decode cX7_give 156 = .ok (.getfield 106, 3) := by decide +kernel
theorem dX7_give_159 : decode cX7_give 159 = .ok (.iconst 1, 1) := by decide +kernel
theorem dX7_give_160 : decode cX7_give 160 = .ok (.iadd, 1) := by decide +kernel
theorem dX7_give_161 : decode cX7_give 161 = .ok (.putfield 106, 3) := by decide +kernel
theorem dX7_give_164 : decode cX7_give 164 = .ok (.aload_n 0, 1) := by decide +kernel
theorem dX7_give_165 : decode cX7_give 165 = .ok (.dup, 1) := by decide +kernel
theorem dX7_give_166 : decode cX7_give 166 = .ok (.getfield 124, 3) := by decide +kernel
theorem dX7_give_169 : decode cX7_give 169 = .ok (.iconst 1, 1) := by decide +kernel
theorem dX7_give_170 : decode cX7_give 170 = .ok (.iadd, 1) := by decide +kernel
theorem dX7_give_171 : decode cX7_give 171 = .ok (.putfield 124, 3) := by decide +kernel
theorem dX7_give_174 : decode cX7_give 174 = .ok (.aload_n 0, 1) := by decide +kernel
theorem dX7_give_175 : decode cX7_give 175 = .ok (.aload_n 0, 1) := by decide +kernel
theorem dX7_give_176 : decode cX7_give 176 = .ok (.getfield 127, 3) := by decide +kernel
theorem dX7_give_179 : decode cX7_give 179 = .ok (.bipush (-4), 2) := by decide +kernel
theorem dX7_give_181 : decode cX7_give 181 = .ok (.if_icmp .ne 8, 3) := by decide +kernel
theorem dX7_give_184 : decode cX7_give 184 = .ok (.bipush (-4), 2) := by decide +kernel
theorem dX7_give_186 : decode cX7_give 186 = .ok (.goto 9, 3) := by decide +kernel
theorem dX7_give_189 : decode cX7_give 189 = .ok (.aload_n 0, 1) := by decide +kernel
theorem dX7_give_190 : decode cX7_give 190 = .ok (.getfield 127, 3) := by decide +kernel
theorem dX7_give_193 : decode cX7_give 193 = .ok (.iconst 1, 1) := by decide +kernel
theorem dX7_give_194 : decode cX7_give 194 = .ok (.isub, 1) := by decide +kernel
theorem dX7_give_195 : decode cX7_give 195 = .ok (.putfield 127, 3) := by decide +kernel
theorem dX7_give_198 : decode cX7_give 198 = .ok (.aload_n 0, 1) := by decide +kernel
theorem dX7_give_199 : decode cX7_give 199 = .ok (.aload_n 0, 1) := by decide +kernel
theorem dX7_give_200 : decode cX7_give 200 = .ok (.getfield 127, 3) := by decide +kernel
theorem dX7_give_203 : decode cX7_give 203 = .ok (.ifCond .ne 8, 3) := by decide +kernel
theorem dX7_give_206 : decode cX7_give 206 = .ok (.bipush 7, 2) := by decide +kernel
theorem dX7_give_208 : decode cX7_give 208 = .ok (.goto 5, 3) := by decide +kernel
theorem dX7_give_211 : decode cX7_give 211 = .ok (.bipush 6, 2) := by decide +kernel
theorem dX7_give_213 : decode cX7_give 213 = .ok (.putfield 85, 3) := by decide +kernel
theorem dX7_give_216 : decode cX7_give 216 = .ok (.iconst 1, 1) := by decide +kernel
theorem dX7_give_217 : decode cX7_give 217 = .ok (.ireturn, 1) := by decide +kernel
set_option maxRecDepth 20000 in
theorem ggX7_get_X7_isInWindow : GoodIn wsX7_get wsX7_isInWindow := goodIn_r _ [12, 13, 14, 15, 16, 17, 18, 19, 20, 21, 22, 23, 24, 25, 26, 27, 28, 29, 30, 31, 32, 33, 34, 35, 36, 37, 38, 39, 40, 41, 42, 43, 44, 45, 46, 47, 48, 49, 50, 51, 52, 53] (by decide +kernel) (by decide +kernel)
set_option maxRecDepth 20000 in
theorem gX7_get_X7_isInWindow : GoodIn wsX7_get (wsV RX7 212 RX7 yX7_isInWindow wsX7_isInWindow) := goodIn_app (goodIn_of _ (by decide +kernel)) ggX7_get_X7_isInWindow
theorem dX7_get_0 : decode cX7_get 0 = .ok (.aload_n 0, 1) := by decide +kernel
theorem dX7_get_1 : decode cX7_get 1 = .ok (.getfield 78, 3) := by decide +kernel
theorem dX7_get_4 : decode cX7_get 4 = .ok (.ifCond .eq 11, 3) := by decide +kernel
theorem dX7_get_7 : decode cX7_get 7 = .ok (.aload_n 0, 1) := by decide +kernel
theorem dX7_get_8 : decode cX7_get 8 = .ok (.getfield 85, 3) := by decide +kernel
theorem dX7_get_11 : decode cX7_get 11 = .ok (.iconst 5, 1) := by decide +kernel
theorem dX7_get_12 : decode cX7_get 12 = .ok (.if_icmp .eq 6, 3) := by decide +kernel
theorem dX7_get_15 : decode cX7_get 15 = .ok (.bipush (-2), 2) := by decide +kernel
theorem dX7_get_17 : decode cX7_get 17 = .ok (.ireturn, 1) := by decide +kernel
theorem dX7_get_18 : decode cX7_get 18 = .ok (.aload_n 0, 1) := by decide +kernel
theorem dX7_get_19 : decode cX7_get 19 = .ok (.invokevirtual 212, 3) := by decide +kernel
theorem dX7_get_22 : decode cX7_get 22 = .ok (.ifCond .eq 16, 3) := by decide +kernel
theorem dX7_get_25 : decode cX7_get 25 = .ok (.aload_n 0, 1) := by decide +kernel
theorem dX7_get_26 : decode cX7_get 26 = .ok (.getfield 16, 3) := by decide +kernel
theorem dX7_get_29 : decode cX7_get 29 = .ok (.aload_n 0, 1) := by decide +kernel
theorem dX7_get_30 : decode cX7_get 30 = .ok (.getfield 124, 3) := by decide +kernel
theorem dX7_get_33 : decode cX7_get 33 = .ok (.iaload, 1) := by decide +kernel
theorem dX7_get_34 : decode cX7_get 34 = .ok (.iconst 1, 1) := by decide +kernel
theorem dX7_get_35 : decode cX7_get 35 = .ok (.if_icmp .ne 6, 3) := by decide +kernel
theorem dX7_get_38 : decode cX7_get 38 = .ok (.bipush (-4), 2) := by decide +kernel
theorem dX7_get_40 : decode cX7_get 40 = .ok (.ireturn, 1) := by decide +kernel
theorem dX7_get_41 : decode cX7_get 41 = .ok (.aload_n 0, 1) := by decide +kernel
theorem dX7_get_42 : decode cX7_get 42 = .ok (.getfield 13, 3) := by decide +kernel
theorem dX7_get_45 : decode cX7_get 45 = .ok (.aload_n 0, 1) := by decide +kernel
theorem dX7_get_46 : decode cX7_get 46 = .ok (.getfield 124, 3) := by decide +kernel
theorem dX7_get_49 : decode cX7_get 49 = .ok (.iaload, 1) := by decide +kernel
theorem dX7_get_50 : decode cX7_get 50 = .ok (.istore_n 1, 1) := by decide +kernel
theorem dX7_get_51 : decode cX7_get 51 = .ok (.aload_n 0, 1) := by decide +kernel
theorem dX7_get_52 : decode cX7_get 52 = .ok (.dup, 1) := by decide +kernel
theorem dX7_get_53 : decode cX7_get 53 = .ok (.getfield 124, 3) := by decide +kernel
theorem dX7_get_56 : decode cX7_get 56 = .ok (.iconst 1, 1) := by decide +kernel
theorem dX7_get_57 : decode cX7_get 57 = .ok (.iadd, 1) := by decide +kernel
theorem dX7_get_58 : decode cX7_get 58 = .ok (.putfield 124, 3) := by decide +kernel
theorem dX7_get_61 : decode cX7_get 61 = .ok (.aload_n 0, 1) := by decide +kernel
theorem dX7_get_62 : decode cX7_get 62 = .ok (.aload_n 0, 1) := by decide +kernel
theorem dX7_get_63 : decode cX7_get 63 = .ok (.getfield 127, 3) := by decide +kernel
theorem dX7_get_66 : decode cX7_get 66 = .ok (.bipush (-4), 2) := by decide +kernel
theorem dX7_get_68 : decode cX7_get 68 = .ok (.if_icmp .ne 8, 3) := by decide +kernel
theorem dX7_get_71 : decode cX7_get 71 = .ok (.bipush (-4), 2) := by decide +kernel
theorem dX7_get_73 : decode cX7_get 73 = .ok (.goto 9, 3) := by decide +kernel
theorem dX7_get_76 : decode cX7_get 76 = .ok (.aload_n 0, 1) := by decide +kernel
theorem dX7_get_77 : decode cX7_get 77 = .ok (.getfield 127, 3) := by decide +kernel
theorem dX7_get_80 : decode cX7_get 80 = .ok (.iconst 1, 1) := by decide +kernel
theorem dX7_get_81 : decode cX7_get 81 = .ok (.isub, 1) := by decide +kernel
theorem dX7_get_82 : decode cX7_get 82 = .ok (.putfield 127, 3) := by decide +kernel
theorem dX7_get_85 : decode cX7_get 85 = .ok (.aload_n 0, 1) := by decide +kernel
theorem dX7_get_86 : decode cX7_get 86 = .ok (.aload_n 0, 1) := by decide +kernel
theorem dX7_get_87 : decode cX7_get 87 = .ok (.getfield 127, 3) := by decide +kernel
theorem dX7_get_90 : decode cX7_get 90 = .ok (.ifCond .eq 14, 3) := by decide +kernel
theorem dX7_get_93 : decode cX7_get 93 = .ok (.aload_n 0, 1) := by decide +kernel
theorem dX7_get_94 : decode cX7_get 94 = .ok (.getfield 124, 3) := by decide +kernel
theorem dX7_get_97 : decode cX7_get 97 = .ok (.aload_n 0, 1) := by decide +kernel
theorem dX7_get_98 : decode cX7_get 98 = .ok (.getfield 52, 3) := by decide +kernel
theorem dX7_get_101 : decode cX7_get 101 = .ok (.if_icmp .ne 7, 3) := by decide +kernel
theorem dX7_get_104 : decode cX7_get 104 = .ok (.iconst 4, 1) := by decide +kernel
theorem dX7_get_105 : decode cX7_get 105 = .ok (.goto 4, 3) := by decide +kernel
theorem dX7_get_108 : decode cX7_get 108 = .ok (.iconst 5, 1) := by decide +kernel
theorem dX7_get_109 : decode cX7_get 109 = .ok (.putfield 85, 3) := by decide +kernel
theorem dX7_get_112 : decode cX7_get 112 = .ok (.iload_n 1, 1) := by decide +kernel
theorem dX7_get_113 : decode cX7_get 113 = .ok (.ireturn, 1) := by decide +kernel
set_option maxRecDepth 20000 in
theorem ggX7_writes_X7_forgets : GoodIn wsX7_writes wsX7_forgets := goodIn_r _ [15, 7, 8, 16, 17, 18, 19, 20, 21, 22, 23, 24, 25, 26, 27, 28, 29, 30, 31, 32, 33, 34, 35, 36, 37, 38, 39, 40, 41, 42, 43, 44, 45, 46, 47, 48, 49, 50, 51, 52, 53] (by decide +kernel) (by decide +kernel)
set_option maxRecDepth 20000 in
theorem gX7_writes_X7_forgets : GoodIn wsX7_writes (wsV RX7 133 RX7 yX7_forgets wsX7_forgets) := goodIn_app (goodIn_of _ (by decide +kernel)) ggX7_writes_X7_forgets
theorem dX7_writes_0 : decode cX7_writes 0 = .ok (.aload_n 0, 1) := by decide +kernel
theorem dX7_writes_1 : decode cX7_writes 1 = .ok (.getfield 31, 3) := by decide +kernel
theorem dX7_writes_4 : decode cX7_writes 4 = .ok (.iconst 0, 1) := by decide +kernel
theorem dX7_writes_5 : decode cX7_writes 5 = .ok (.dup2, 1) := by decide +kernel
theorem dX7_writes_6 : decode cX7_writes 6 = .ok (.iaload, 1) := by decide +kernel
theorem dX7_writes_7 : decode cX7_writes 7 = .ok (.iconst 1, 1) := by decide +kernel
theorem dX7_writes_8 : decode cX7_writes 8 = .ok (.iadd, 1) := by decide +kernel
theorem dX7_writes_9 : decode cX7_writes 9 = .ok (.iastore, 1) := by decide +kernel
theorem dX7_writes_10 : decode cX7_writes 10 = .ok (.aload_n 0, 1) := by decide +kernel
theorem dX7_writes_11 : decode cX7_writes 11 = .ok (.getfield 31, 3) := by decide +kernel
theorem dX7_writes_14 : decode cX7_writes 14 = .ok (.iconst 0, 1) := by decide +kernel
theorem dX7_writes_15 : decode cX7_writes 15 = .ok (.iaload, 1) := by decide +kernel
theorem dX7_writes_16 : decode cX7_writes 16 = .ok (.aload_n 0, 1) := by decide +kernel
theorem dX7_writes_17 : decode cX7_writes 17 = .ok (.getfield 91, 3) := by decide +kernel
theorem dX7_writes_20 : decode cX7_writes 20 = .ok (.ifCond .ne 7, 3) := by decide +kernel
theorem dX7_writes_23 : decode cX7_writes 23 = .ok (.iconst 4, 1) := by decide +kernel
theorem dX7_writes_24 : decode cX7_writes 24 = .ok (.goto 16, 3) := by decide +kernel
theorem dX7_writes_27 : decode cX7_writes 27 = .ok (.aload_n 0, 1) := by decide +kernel
theorem dX7_writes_28 : decode cX7_writes 28 = .ok (.getfield 91, 3) := by decide +kernel
theorem dX7_writes_31 : decode cX7_writes 31 = .ok (.iconst 1, 1) := by decide +kernel
theorem dX7_writes_32 : decode cX7_writes 32 = .ok (.if_icmp .ne 7, 3) := by decide +kernel
theorem dX7_writes_35 : decode cX7_writes 35 = .ok (.iconst 2, 1) := by decide +kernel
theorem dX7_writes_36 : decode cX7_writes 36 = .ok (.goto 4, 3) := by decide +kernel
theorem dX7_writes_39 : decode cX7_writes 39 = .ok (.iconst 1, 1) := by decide +kernel
theorem dX7_writes_40 : decode cX7_writes 40 = .ok (.if_icmp .ge 4, 3) := by decide +kernel
theorem dX7_writes_43 : decode cX7_writes 43 = .ok (.return_, 1) := by decide +kernel
theorem dX7_writes_44 : decode cX7_writes 44 = .ok (.aload_n 0, 1) := by decide +kernel
theorem dX7_writes_45 : decode cX7_writes 45 = .ok (.getfield 25, 3) := by decide +kernel
theorem dX7_writes_48 : decode cX7_writes 48 = .ok (.iconst 0, 1) := by decide +kernel
theorem dX7_writes_49 : decode cX7_writes 49 = .ok (.iaload, 1) := by decide +kernel
theorem dX7_writes_50 : decode cX7_writes 50 = .ok (.istore_n 1, 1) := by decide +kernel
theorem dX7_writes_51 : decode cX7_writes 51 = .ok (.aload_n 0, 1) := by decide +kernel
theorem dX7_writes_52 : decode cX7_writes 52 = .ok (.iload_n 1, 1) := by decide +kernel
theorem dX7_writes_53 : decode cX7_writes 53 = .ok (.invokevirtual 133, 3) := by decide +kernel
theorem dX7_writes_56 : decode cX7_writes 56 = .ok (.aload_n 0, 1) := by decide +kernel
theorem dX7_writes_57 : decode cX7_writes 57 = .ok (.getfield 13, 3) := by decide +kernel
theorem dX7_writes_60 : decode cX7_writes 60 = .ok (.iload_n 1, 1) := by decide +kernel
theorem dX7_writes_61 : decode cX7_writes 61 = .ok (.aload_n 0, 1) := by decide +kernel
theorem dX7_writes_62 : decode cX7_writes 62 = .ok (.getfield 28, 3) := by decide +kernel
theorem dX7_writes_65 : decode cX7_writes 65 = .ok (.iconst 0, 1) := by decide +kernel
theorem dX7_writes_66 : decode cX7_writes 66 = .ok (.iaload, 1) := by decide +kernel
theorem dX7_writes_67 : decode cX7_writes 67 = .ok (.iastore, 1) := by decide +kernel
theorem dX7_writes_68 : decode cX7_writes 68 = .ok (.aload_n 0, 1) := by decide +kernel
theorem dX7_writes_69 : decode cX7_writes 69 = .ok (.getfield 16, 3) := by decide +kernel
theorem dX7_writes_72 : decode cX7_writes 72 = .ok (.iload_n 1, 1) := by decide +kernel
theorem dX7_writes_73 : decode cX7_writes 73 = .ok (.iconst 0, 1) := by decide +kernel
theorem dX7_writes_74 : decode cX7_writes 74 = .ok (.iastore, 1) := by decide +kernel
theorem dX7_writes_75 : decode cX7_writes 75 = .ok (.aload_n 0, 1) := by decide +kernel
theorem dX7_writes_76 : decode cX7_writes 76 = .ok (.getfield 74, 3) := by decide +kernel
theorem dX7_writes_79 : decode cX7_writes 79 = .ok (.istore_n 2, 1) := by decide +kernel
theorem dX7_writes_80 : decode cX7_writes 80 = .ok (.iload_n 2, 1) := by decide +kernel
theorem dX7_writes_81 : decode cX7_writes 81 = .ok (.ifCond .le 23, 3) := by decide +kernel
theorem dX7_writes_84 : decode cX7_writes 84 = .ok (.aload_n 0, 1) := by decide +kernel
theorem dX7_writes_85 : decode cX7_writes 85 = .ok (.getfield 22, 3) := by decide +kernel
theorem dX7_writes_88 : decode cX7_writes 88 = .ok (.iload_n 2, 1) := by decide +kernel
theorem dX7_writes_89 : decode cX7_writes 89 = .ok (.aload_n 0, 1) := by decide +kernel
theorem dX7_writes_90 : decode cX7_writes 90 = .ok (.getfield 22, 3) := by decide +kernel
theorem dX7_writes_93 : decode cX7_writes 93 = .ok (.iload_n 2, 1) := by decide +kernel
theorem dX7_writes_94 : decode cX7_writes 94 = .ok (.iconst 1, 1) := by decide +kernel
theorem dX7_writes_95 : decode cX7_writes 95 = .ok (.isub, 1) := by decide +kernel
theorem dX7_writes_96 : decode cX7_writes 96 = .ok (.iaload, 1) := by decide +kernel
theorem dX7_writes_97 : decode cX7_writes 97 = .ok (.iastore, 1) := by decide +kernel
theorem dX7_writes_98 : decode cX7_writes 98 = .ok (.iinc 2 (-1), 3) := by decide +kernel
theorem dX7_writes_101 : decode cX7_writes 101 = .ok (.goto (-21), 3) := by decide +kernel
theorem dX7_writes_104 : decode cX7_writes 104 = .ok (.aload_n 0, 1) := by decide +kernel
theorem dX7_writes_105 : decode cX7_writes 105 = .ok (.getfield 22, 3) := by decide +kernel
theorem dX7_writes_108 : decode cX7_writes 108 = .ok (.iconst 0, 1) := by decide +kernel
theorem dX7_writes_109 : decode cX7_writes 109 = .ok (.iload_n 1, 1) := by decide +kernel
theorem dX7_writes_110 : decode cX7_writes 110 = .ok (.iastore, 1) := by decide +kernel
theorem dX7_writes_111 : decode cX7_writes 111 = .ok (.aload_n 0, 1) := by decide +kernel
theorem dX7_writes_112 : decode cX7_writes 112 = .ok (.dup, 1) := by decide +kernel
theorem dX7_writes_113 : decode cX7_writes 113 = .ok (.getfield 74, 3) := by decide +kernel
theorem dX7_writes_116 : decode cX7_writes 116 = .ok (.iconst 1, 1) := by decide +kernel
theorem dX7_writes_117 : decode cX7_writes 117 = .ok (.iadd, 1) := by decide +kernel
theorem dX7_writes_118 : decode cX7_writes 118 = .ok (.putfield 74, 3) := by decide +kernel
theorem dX7_writes_121 : decode cX7_writes 121 = .ok (.aload_n 0, 1) := by decide +kernel
theorem dX7_writes_122 : decode cX7_writes 122 = .ok (.dup, 1) := by decide +kernel
theorem dX7_writes_123 : decode cX7_writes 123 = .ok (.getfield 68, 3) := by decide +kernel
theorem dX7_writes_126 : decode cX7_writes 126 = .ok (.iconst 1, 1) := by decide +kernel
theorem dX7_writes_127 : decode cX7_writes 127 = .ok (.iadd, 1) := by decide +kernel
theorem dX7_writes_128 : decode cX7_writes 128 = .ok (.putfield 68, 3) := by decide +kernel
theorem dX7_writes_131 : decode cX7_writes 131 = .ok (.aload_n 0, 1) := by decide +kernel
theorem dX7_writes_132 : decode cX7_writes 132 = .ok (.dup, 1) := by decide +kernel
theorem dX7_writes_133 : decode cX7_writes 133 = .ok (.getfield 106, 3) := by decide +kernel
theorem dX7_writes_136 : decode cX7_writes 136 = .ok (.iconst 1, 1) := by decide +kernel
theorem dX7_writes_137 : decode cX7_writes 137 = .ok (.isub, 1) := by decide +kernel
theorem dX7_writes_138 : decode cX7_writes 138 = .ok (.putfield 106, 3) := by decide +kernel
theorem dX7_writes_141 : decode cX7_writes 141 = .ok (.aload_n 0, 1) := by decide +kernel
theorem dX7_writes_142 : decode cX7_writes 142 = .ok (.getfield 25, 3) := by decide +kernel
theorem dX7_writes_145 : decode cX7_writes 145 = .ok (.iconst 0, 1) := by decide +kernel
theorem dX7_writes_146 : decode cX7_writes 146 = .ok (.aload_n 0, 1) := by decide +kernel
theorem dX7_writes_147 : decode cX7_writes 147 = .ok (.getfield 25, 3) := by decide +kernel
theorem dX7_writes_150 : decode cX7_writes 150 = .ok (.iconst 1, 1) := by decide +kernel
theorem dX7_writes_151 : decode cX7_writes 151 = .ok (.iaload, 1) := by decide +kernel
theorem dX7_writes_152 : decode cX7_writes 152 = .ok (.iastore, 1) := by decide +kernel
theorem dX7_writes_153 : decode cX7_writes 153 = .ok (.aload_n 0, 1) := by decide +kernel
theorem dX7_writes_154 : decode cX7_writes 154 = .ok (.getfield 28, 3) := by decide +kernel
theorem dX7_writes_157 : decode cX7_writes 157 = .ok (.iconst 0, 1) := by decide +kernel
theorem dX7_writes_158 : decode cX7_writes 158 = .ok (.aload_n 0, 1) := by decide +kernel
theorem dX7_writes_159 : decode cX7_writes 159 = .ok (.getfield 28, 3) := by decide +kernel
theorem dX7_writes_162 : decode cX7_writes 162 = .ok (.iconst 1, 1) := by decide +kernel
theorem dX7_writes_163 : decode cX7_writes 163 = .ok (.iaload, 1) := by decide +kernel
theorem dX7_writes_164 : decode cX7_writes 164 = .ok (.iastore, 1) := by decide +kernel
theorem dX7_writes_165 : decode cX7_writes 165 = .ok (.aload_n 0, 1) := by decide +kernel
theorem dX7_writes_166 : decode cX7_writes 166 = .ok (.getfield 31, 3) := by decide +kernel
theorem dX7_writes_169 : decode cX7_writes 169 = .ok (.iconst 0, 1) := by decide +kernel
theorem dX7_writes_170 : decode cX7_writes 170 = .ok (.aload_n 0, 1) := by decide +kernel
theorem dX7_writes_171 : decode cX7_writes 171 = .ok (.getfield 31, 3) := by decide +kernel
theorem dX7_writes_174 : decode cX7_writes 174 = .ok (.iconst 1, 1) := by decide +kernel
theorem dX7_writes_175 : decode cX7_writes 175 = .ok (.iaload, 1) := by decide +kernel
theorem dX7_writes_176 : decode cX7_writes 176 = .ok (.iastore, 1) := by decide +kernel
theorem dX7_writes_177 : decode cX7_writes 177 = .ok (.return_, 1) := by decide +kernel
set_option maxRecDepth 20000 in
theorem ggX7_oneTick_X7_writes : GoodIn wsX7_oneTick wsX7_writes := goodIn_r _ [12, 13, 14, 15, 16, 17, 18, 19, 20, 21, 4, 22, 23, 24, 11, 25, 37, 38, 39, 40, 41, 42, 43, 44, 45, 46, 47, 48, 49, 50, 51, 52, 53, 54, 55, 56, 57, 58, 59, 60, 61, 62, 63, 64, 65, 66, 67, 68, 69, 70, 71, 72, 73, 74] (by decide +kernel) (by decide +kernel)
set_option maxRecDepth 20000 in
theorem gX7_oneTick_X7_writes : GoodIn wsX7_oneTick (wsV RX7 250 RX7 yX7_writes wsX7_writes) := goodIn_app (goodIn_of _ (by decide +kernel)) ggX7_oneTick_X7_writes
set_option maxRecDepth 20000 in
theorem ggX7_oneTick_X7_groupEmpties : GoodIn wsX7_oneTick wsX7_groupEmpties := goodIn_r _ [29, 30, 31, 32, 33, 34, 11, 35, 16, 36, 18, 22, 23, 24, 25, 19, 20, 37, 38, 39, 40, 41, 42, 43, 44, 45, 46, 47, 48, 49, 50, 51, 52, 53, 54, 55, 56, 57, 58, 59, 60, 61, 62, 63, 64, 65, 66, 67, 68, 69, 70, 71, 72, 73, 74] (by decide +kernel) (by decide +kernel)
set_option maxRecDepth 20000 in
theorem gX7_oneTick_X7_groupEmpties : GoodIn wsX7_oneTick (wsV RX7 144 RX7 yX7_groupEmpties wsX7_groupEmpties) := goodIn_app (goodIn_of _ (by decide +kernel)) ggX7_oneTick_X7_groupEmpties
theorem dX7_oneTick_0 : decode cX7_oneTick 0 = .ok (.aload_n 0, 1) := by decide +kernel
theorem dX7_oneTick_1 : decode cX7_oneTick 1 = .ok (.dup, 1) := by decide +kernel
theorem dX7_oneTick_2 : decode cX7_oneTick 2 = .ok (.getfield 65, 3) := by decide +kernel
theorem dX7_oneTick_5 : decode cX7_oneTick 5 = .ok (.iconst 1, 1) := by decide +kernel
theorem dX7_oneTick_6 : decode cX7_oneTick 6 = .ok (.iadd, 1) := by decide +kernel
theorem dX7_oneTick_7 : decode cX7_oneTick 7 = .ok (.putfield 65, 3) := by decide +kernel
theorem dX7_oneTick_10 : decode cX7_oneTick 10 = .ok (.aload_n 0, 1) := by decide +kernel
theorem dX7_oneTick_11 : decode cX7_oneTick 11 = .ok (.getfield 78, 3) := by decide +kernel
theorem dX7_oneTick_14 : decode cX7_oneTick 14 = .ok (.ifCond .eq 21, 3) := by decide +kernel
theorem dX7_oneTick_17 : decode cX7_oneTick 17 = .ok (.aload_n 0, 1) := by decide +kernel
theorem dX7_oneTick_18 : decode cX7_oneTick 18 = .ok (.getfield 85, 3) := by decide +kernel
theorem dX7_oneTick_21 : decode cX7_oneTick 21 = .ok (.bipush 6, 2) := by decide +kernel
theorem dX7_oneTick_23 : decode cX7_oneTick 23 = .ok (.if_icmp .eq 13, 3) := by decide +kernel
theorem dX7_oneTick_26 : decode cX7_oneTick 26 = .ok (.aload_n 0, 1) := by decide +kernel
theorem dX7_oneTick_27 : decode cX7_oneTick 27 = .ok (.getfield 85, 3) := by decide +kernel
theorem dX7_oneTick_30 : decode cX7_oneTick 30 = .ok (.bipush 7, 2) := by decide +kernel
theorem dX7_oneTick_32 : decode cX7_oneTick 32 = .ok (.if_icmp .eq 4, 3) := by decide +kernel
theorem dX7_oneTick_35 : decode cX7_oneTick 35 = .ok (.return_, 1) := by decide +kernel
theorem dX7_oneTick_36 : decode cX7_oneTick 36 = .ok (.aload_n 0, 1) := by decide +kernel
theorem dX7_oneTick_37 : decode cX7_oneTick 37 = .ok (.getfield 106, 3) := by decide +kernel
theorem dX7_oneTick_40 : decode cX7_oneTick 40 = .ok (.ifCond .le 10, 3) := by decide +kernel
theorem dX7_oneTick_43 : decode cX7_oneTick 43 = .ok (.aload_n 0, 1) := by decide +kernel
theorem dX7_oneTick_44 : decode cX7_oneTick 44 = .ok (.invokevirtual 250, 3) := by decide +kernel
theorem dX7_oneTick_47 : decode cX7_oneTick 47 = .ok (.goto 62, 3) := by decide +kernel
theorem dX7_oneTick_50 : decode cX7_oneTick 50 = .ok (.aload_n 0, 1) := by decide +kernel
theorem dX7_oneTick_51 : decode cX7_oneTick 51 = .ok (.getfield 109, 3) := by decide +kernel
theorem dX7_oneTick_54 : decode cX7_oneTick 54 = .ok (.ifCond .le 55, 3) := by decide +kernel
theorem dX7_oneTick_57 : decode cX7_oneTick 57 = .ok (.aload_n 0, 1) := by decide +kernel
theorem dX7_oneTick_58 : decode cX7_oneTick 58 = .ok (.dup, 1) := by decide +kernel
theorem dX7_oneTick_59 : decode cX7_oneTick 59 = .ok (.getfield 112, 3) := by decide +kernel
theorem dX7_oneTick_62 : decode cX7_oneTick 62 = .ok (.iconst 1, 1) := by decide +kernel
theorem dX7_oneTick_63 : decode cX7_oneTick 63 = .ok (.iadd, 1) := by decide +kernel
theorem dX7_oneTick_64 : decode cX7_oneTick 64 = .ok (.putfield 112, 3) := by decide +kernel
theorem dX7_oneTick_67 : decode cX7_oneTick 67 = .ok (.aload_n 0, 1) := by decide +kernel
theorem dX7_oneTick_68 : decode cX7_oneTick 68 = .ok (.getfield 112, 3) := by decide +kernel
theorem dX7_oneTick_71 : decode cX7_oneTick 71 = .ok (.iconst 2, 1) := by decide +kernel
theorem dX7_oneTick_72 : decode cX7_oneTick 72 = .ok (.if_icmp .ne 37, 3) := by decide +kernel
theorem dX7_oneTick_75 : decode cX7_oneTick 75 = .ok (.aload_n 0, 1) := by decide +kernel
theorem dX7_oneTick_76 : decode cX7_oneTick 76 = .ok (.aload_n 0, 1) := by decide +kernel
theorem dX7_oneTick_77 : decode cX7_oneTick 77 = .ok (.getfield 141, 3) := by decide +kernel
theorem dX7_oneTick_80 : decode cX7_oneTick 80 = .ok (.iconst 0, 1) := by decide +kernel
theorem dX7_oneTick_81 : decode cX7_oneTick 81 = .ok (.invokevirtual 144, 3) := by decide +kernel
theorem dX7_oneTick_84 : decode cX7_oneTick 84 = .ok (.aload_n 0, 1) := by decide +kernel
theorem dX7_oneTick_85 : decode cX7_oneTick 85 = .ok (.dup, 1) := by decide +kernel
theorem dX7_oneTick_86 : decode cX7_oneTick 86 = .ok (.getfield 141, 3) := by decide +kernel
theorem dX7_oneTick_89 : decode cX7_oneTick 89 = .ok (.iconst 1, 1) := by decide +kernel
theorem dX7_oneTick_90 : decode cX7_oneTick 90 = .ok (.iadd, 1) := by decide +kernel
theorem dX7_oneTick_91 : decode cX7_oneTick 91 = .ok (.putfield 141, 3) := by decide +kernel
theorem dX7_oneTick_94 : decode cX7_oneTick 94 = .ok (.aload_n 0, 1) := by decide +kernel
theorem dX7_oneTick_95 : decode cX7_oneTick 95 = .ok (.dup, 1) := by decide +kernel
theorem dX7_oneTick_96 : decode cX7_oneTick 96 = .ok (.getfield 109, 3) := by decide +kernel
theorem dX7_oneTick_99 : decode cX7_oneTick 99 = .ok (.iconst 1, 1) := by decide +kernel
theorem dX7_oneTick_100 : decode cX7_oneTick 100 = .ok (.isub, 1) := by decide +kernel
theorem dX7_oneTick_101 : decode cX7_oneTick 101 = .ok (.putfield 109, 3) := by decide +kernel
theorem dX7_oneTick_104 : decode cX7_oneTick 104 = .ok (.aload_n 0, 1) := by decide +kernel
theorem dX7_oneTick_105 : decode cX7_oneTick 105 = .ok (.iconst 0, 1) := by decide +kernel
theorem dX7_oneTick_106 : decode cX7_oneTick 106 = .ok (.putfield 112, 3) := by decide +kernel
theorem dX7_oneTick_109 : decode cX7_oneTick 109 = .ok (.aload_n 0, 1) := by decide +kernel
theorem dX7_oneTick_110 : decode cX7_oneTick 110 = .ok (.aload_n 0, 1) := by decide +kernel
theorem dX7_oneTick_111 : decode cX7_oneTick 111 = .ok (.getfield 85, 3) := by decide +kernel
theorem dX7_oneTick_114 : decode cX7_oneTick 114 = .ok (.bipush 7, 2) := by decide +kernel
theorem dX7_oneTick_116 : decode cX7_oneTick 116 = .ok (.if_icmp .ne 21, 3) := by decide +kernel
theorem dX7_oneTick_119 : decode cX7_oneTick 119 = .ok (.aload_n 0, 1) := by decide +kernel
theorem dX7_oneTick_120 : decode cX7_oneTick 120 = .ok (.getfield 106, 3) := by decide +kernel
theorem dX7_oneTick_123 : decode cX7_oneTick 123 = .ok (.ifCond .ne 14, 3) := by decide +kernel
theorem dX7_oneTick_126 : decode cX7_oneTick 126 = .ok (.aload_n 0, 1) := by decide +kernel
theorem dX7_oneTick_127 : decode cX7_oneTick 127 = .ok (.getfield 109, 3) := by decide +kernel
theorem dX7_oneTick_130 : decode cX7_oneTick 130 = .ok (.ifCond .ne 7, 3) := by decide +kernel
theorem dX7_oneTick_133 : decode cX7_oneTick 133 = .ok (.iconst 4, 1) := by decide +kernel
theorem dX7_oneTick_134 : decode cX7_oneTick 134 = .ok (.goto 7, 3) := by decide +kernel
theorem dX7_oneTick_137 : decode cX7_oneTick 137 = .ok (.aload_n 0, 1) := by decide +kernel
theorem dX7_oneTick_138 : decode cX7_oneTick 138 = .ok (.getfield 85, 3) := by decide +kernel
theorem dX7_oneTick_141 : decode cX7_oneTick 141 = .ok (.putfield 85, 3) := by decide +kernel
theorem dX7_oneTick_144 : decode cX7_oneTick 144 = .ok (.return_, 1) := by decide +kernel
set_option maxRecDepth 20000 in
theorem ggX7_tick_X7_in : GoodIn wsX7_tick wsX7_in := goodIn_r _ [6] (by decide +kernel) (by decide +kernel)
set_option maxRecDepth 20000 in
theorem gX7_tick_X7_in : GoodIn wsX7_tick (va_wsS RX7 42 yX7_in wsX7_in) := goodIn_app (goodIn_of _ (by decide +kernel)) ggX7_tick_X7_in
set_option maxRecDepth 20000 in
theorem ggX7_tick_X7_oneTick : GoodIn wsX7_tick wsX7_oneTick := goodIn_r _ [10, 2, 11, 12, 13, 14, 15, 16, 17, 18, 19, 5, 20, 21, 22, 23, 24, 25, 26, 27, 28, 29, 30, 31, 32, 33, 34, 35, 36, 37, 38, 39, 40, 41, 42, 43, 44, 45, 46, 47, 48, 49, 50, 51, 52, 53, 54, 55, 56, 57, 58, 59, 60, 61, 62, 63, 64, 65, 66, 67, 68, 69, 70, 71, 72, 73, 74, 75, 76, 77, 78, 79, 80, 81, 82] (by decide +kernel) (by decide +kernel)
set_option maxRecDepth 20000 in
theorem gX7_tick_X7_oneTick : GoodIn wsX7_tick (wsV RX7 255 RX7 yX7_oneTick wsX7_oneTick) := goodIn_app (goodIn_of _ (by decide +kernel)) ggX7_tick_X7_oneTick
theorem dX7_tick_0 : decode cX7_tick 0 = .ok (.iload_n 1, 1) := by decide +kernel
theorem dX7_tick_1 : decode cX7_tick 1 = .ok (.i2l, 1) := by decide +kernel
theorem dX7_tick_2 : decode cX7_tick 2 = .ok (.lconst 1, 1) := by decide +kernel
theorem dX7_tick_3 : decode cX7_tick 3 = .ok (.ldc2_w 253, 3) := by decide +kernel
theorem dX7_tick_6 : decode cX7_tick 6 = .ok (.invokestatic 42, 3) := by decide +kernel
theorem dX7_tick_9 : decode cX7_tick 9 = .ok (.ifCond .ne 5, 3) := by decide +kernel
theorem dX7_tick_12 : decode cX7_tick 12 = .ok (.iconst (-1), 1) := by decide +kernel
theorem dX7_tick_13 : decode cX7_tick 13 = .ok (.ireturn, 1) := by decide +kernel
theorem dX7_tick_14 : decode cX7_tick 14 = .ok (.iconst 0, 1) := by decide +kernel
theorem dX7_tick_15 : decode cX7_tick 15 = .ok (.istore_n 2, 1) := by decide +kernel
theorem dX7_tick_16 : decode cX7_tick 16 = .ok (.iload_n 2, 1) := by decide +kernel
theorem dX7_tick_17 : decode cX7_tick 17 = .ok (.iload_n 1, 1) := by decide +kernel
theorem dX7_tick_18 : decode cX7_tick 18 = .ok (.if_icmp .ge 13, 3) := by decide +kernel
theorem dX7_tick_21 : decode cX7_tick 21 = .ok (.aload_n 0, 1) := by decide +kernel
theorem dX7_tick_22 : decode cX7_tick 22 = .ok (.invokevirtual 255, 3) := by decide +kernel
theorem dX7_tick_25 : decode cX7_tick 25 = .ok (.iinc 2 1, 3) := by decide +kernel
theorem dX7_tick_28 : decode cX7_tick 28 = .ok (.goto (-12), 3) := by decide +kernel
theorem dX7_tick_31 : decode cX7_tick 31 = .ok (.aload_n 0, 1) := by decide +kernel
theorem dX7_tick_32 : decode cX7_tick 32 = .ok (.getfield 65, 3) := by decide +kernel
theorem dX7_tick_35 : decode cX7_tick 35 = .ok (.ireturn, 1) := by decide +kernel
set_option maxRecDepth 20000 in
theorem ggX7_tune_X7_tell : GoodIn wsX7_tune wsX7_tell := goodIn_r _ [5, 6, 7, 8, 9, 4, 10, 11, 12, 13, 14, 15, 16, 17, 18, 19, 20, 21, 22, 23, 24, 25, 26, 27, 28, 29, 30, 31, 32, 33, 34, 35, 36, 37, 38, 39, 40, 41, 42, 43, 44, 45, 46, 47, 48, 49, 50, 51, 52, 53, 54, 55, 56, 57, 58, 59, 60, 61, 62, 63, 64, 65, 66, 67, 68, 69, 70, 71, 72, 73, 74, 75, 76, 77, 78, 79, 80, 81, 82, 83, 84, 85, 86, 87, 88, 89, 90, 91, 92, 93, 94, 95, 96, 97, 98, 99, 100, 101, 102, 103, 104, 105, 106, 107, 108, 109, 110, 111, 112, 113, 114, 115, 116, 117, 118, 119, 120, 121, 122, 123, 124, 125, 126, 127, 128, 129, 130, 131, 132, 133, 134, 135, 136, 137, 138, 139, 140, 141, 142, 143, 144, 145, 146, 147, 148, 149, 150, 151, 152, 153, 154, 155, 156, 157, 158, 159, 160, 161, 162, 163, 164, 165, 166, 167, 168, 169, 170, 171, 172, 173, 174, 175, 176, 177, 178, 179, 180, 181, 182, 183, 184, 185, 186, 187, 188, 189, 190, 191] (by decide +kernel) (by decide +kernel)
set_option maxRecDepth 20000 in
theorem gX7_tune_X7_tell : GoodIn wsX7_tune (wsV RX7 258 RX7 yX7_tell wsX7_tell) := goodIn_app (goodIn_of _ (by decide +kernel)) ggX7_tune_X7_tell
theorem dX7_tune_0 : decode cX7_tune 0 = .ok (.iconst 0, 1) := by decide +kernel
theorem dX7_tune_1 : decode cX7_tune 1 = .ok (.istore_n 1, 1) := by decide +kernel
theorem dX7_tune_2 : decode cX7_tune 2 = .ok (.iconst 0, 1) := by decide +kernel
theorem dX7_tune_3 : decode cX7_tune 3 = .ok (.istore_n 2, 1) := by decide +kernel
theorem dX7_tune_4 : decode cX7_tune 4 = .ok (.iload_n 2, 1) := by decide +kernel
theorem dX7_tune_5 : decode cX7_tune 5 = .ok (.bipush 16, 2) := by decide +kernel
theorem dX7_tune_7 : decode cX7_tune 7 = .ok (.if_icmp .ge 32, 3) := by decide +kernel
theorem dX7_tune_10 : decode cX7_tune 10 = .ok (.aload_n 0, 1) := by decide +kernel
theorem dX7_tune_11 : decode cX7_tune 11 = .ok (.bipush 21, 2) := by decide +kernel
theorem dX7_tune_13 : decode cX7_tune 13 = .ok (.iload_n 2, 1) := by decide +kernel
theorem dX7_tune_14 : decode cX7_tune 14 = .ok (.invokevirtual 258, 3) := by decide +kernel
theorem dX7_tune_17 : decode cX7_tune 17 = .ok (.istore_n 3, 1) := by decide +kernel
theorem dX7_tune_18 : decode cX7_tune 18 = .ok (.iload_n 3, 1) := by decide +kernel
theorem dX7_tune_19 : decode cX7_tune 19 = .ok (.bipush (-4), 2) := by decide +kernel
theorem dX7_tune_21 : decode cX7_tune 21 = .ok (.if_icmp .ne 6, 3) := by decide +kernel
theorem dX7_tune_24 : decode cX7_tune 24 = .ok (.bipush (-4), 2) := by decide +kernel
theorem dX7_tune_26 : decode cX7_tune 26 = .ok (.ireturn, 1) := by decide +kernel
theorem dX7_tune_27 : decode cX7_tune 27 = .ok (.iload_n 1, 1) := by decide +kernel
theorem dX7_tune_28 : decode cX7_tune 28 = .ok (.iload_n 3, 1) := by decide +kernel
theorem dX7_tune_29 : decode cX7_tune 29 = .ok (.iload_n 2, 1) := by decide +kernel
theorem dX7_tune_30 : decode cX7_tune 30 = .ok (.ishl, 1) := by decide +kernel
theorem dX7_tune_31 : decode cX7_tune 31 = .ok (.ior, 1) := by decide +kernel
theorem dX7_tune_32 : decode cX7_tune 32 = .ok (.istore_n 1, 1) := by decide +kernel
theorem dX7_tune_33 : decode cX7_tune 33 = .ok (.iinc 2 1, 3) := by decide +kernel
theorem dX7_tune_36 : decode cX7_tune 36 = .ok (.goto (-32), 3) := by decide +kernel
theorem dX7_tune_39 : decode cX7_tune 39 = .ok (.iload_n 1, 1) := by decide +kernel
theorem dX7_tune_40 : decode cX7_tune 40 = .ok (.ifCond .ne 6, 3) := by decide +kernel
theorem dX7_tune_43 : decode cX7_tune 43 = .ok (.bipush (-2), 2) := by decide +kernel
theorem dX7_tune_45 : decode cX7_tune 45 = .ok (.ireturn, 1) := by decide +kernel
theorem dX7_tune_46 : decode cX7_tune 46 = .ok (.iconst 0, 1) := by decide +kernel
theorem dX7_tune_47 : decode cX7_tune 47 = .ok (.istore_n 2, 1) := by decide +kernel
theorem dX7_tune_48 : decode cX7_tune 48 = .ok (.iconst 0, 1) := by decide +kernel
theorem dX7_tune_49 : decode cX7_tune 49 = .ok (.istore_n 3, 1) := by decide +kernel
theorem dX7_tune_50 : decode cX7_tune 50 = .ok (.iconst 0, 1) := by decide +kernel
theorem dX7_tune_51 : decode cX7_tune 51 = .ok (.istore 4, 2) := by decide +kernel
theorem dX7_tune_53 : decode cX7_tune 53 = .ok (.iload 4, 2) := by decide +kernel
theorem dX7_tune_55 : decode cX7_tune 55 = .ok (.bipush 16, 2) := by decide +kernel
theorem dX7_tune_57 : decode cX7_tune 57 = .ok (.if_icmp .ge 67, 3) := by decide +kernel
theorem dX7_tune_60 : decode cX7_tune 60 = .ok (.iconst 0, 1) := by decide +kernel
theorem dX7_tune_61 : decode cX7_tune 61 = .ok (.istore 5, 2) := by decide +kernel
theorem dX7_tune_63 : decode cX7_tune 63 = .ok (.iload 5, 2) := by decide +kernel
theorem dX7_tune_65 : decode cX7_tune 65 = .ok (.bipush 16, 2) := by decide +kernel
theorem dX7_tune_67 : decode cX7_tune 67 = .ok (.if_icmp .ge 25, 3) := by decide +kernel
theorem dX7_tune_70 : decode cX7_tune 70 = .ok (.iload_n 1, 1) := by decide +kernel
theorem dX7_tune_71 : decode cX7_tune 71 = .ok (.iload 4, 2) := by decide +kernel
theorem dX7_tune_73 : decode cX7_tune 73 = .ok (.iload 5, 2) := by decide +kernel
theorem dX7_tune_75 : decode cX7_tune 75 = .ok (.iadd, 1) := by decide +kernel
theorem dX7_tune_76 : decode cX7_tune 76 = .ok (.bipush 16, 2) := by decide +kernel
theorem dX7_tune_78 : decode cX7_tune 78 = .ok (.irem, 1) := by decide +kernel
theorem dX7_tune_79 : decode cX7_tune 79 = .ok (.ishr, 1) := by decide +kernel
theorem dX7_tune_80 : decode cX7_tune 80 = .ok (.iconst 1, 1) := by decide +kernel
theorem dX7_tune_81 : decode cX7_tune 81 = .ok (.iand, 1) := by decide +kernel
theorem dX7_tune_82 : decode cX7_tune 82 = .ok (.iconst 1, 1) := by decide +kernel
theorem dX7_tune_83 : decode cX7_tune 83 = .ok (.if_icmp .ne 9, 3) := by decide +kernel
theorem dX7_tune_86 : decode cX7_tune 86 = .ok (.iinc 5 1, 3) := by decide +kernel
theorem dX7_tune_89 : decode cX7_tune 89 = .ok (.goto (-26), 3) := by decide +kernel
theorem dX7_tune_92 : decode cX7_tune 92 = .ok (.iload 5, 2) := by decide +kernel
theorem dX7_tune_94 : decode cX7_tune 94 = .ok (.iload_n 3, 1) := by decide +kernel
theorem dX7_tune_95 : decode cX7_tune 95 = .ok (.if_icmp .le 8, 3) := by decide +kernel
theorem dX7_tune_98 : decode cX7_tune 98 = .ok (.iload 4, 2) := by decide +kernel
theorem dX7_tune_100 : decode cX7_tune 100 = .ok (.goto 4, 3) := by decide +kernel
theorem dX7_tune_103 : decode cX7_tune 103 = .ok (.iload_n 2, 1) := by decide +kernel
theorem dX7_tune_104 : decode cX7_tune 104 = .ok (.istore_n 2, 1) := by decide +kernel
theorem dX7_tune_105 : decode cX7_tune 105 = .ok (.iload 5, 2) := by decide +kernel
theorem dX7_tune_107 : decode cX7_tune 107 = .ok (.iload_n 3, 1) := by decide +kernel
theorem dX7_tune_108 : decode cX7_tune 108 = .ok (.if_icmp .le 8, 3) := by decide +kernel
theorem dX7_tune_111 : decode cX7_tune 111 = .ok (.iload 5, 2) := by decide +kernel
theorem dX7_tune_113 : decode cX7_tune 113 = .ok (.goto 4, 3) := by decide +kernel
theorem dX7_tune_116 : decode cX7_tune 116 = .ok (.iload_n 3, 1) := by decide +kernel
theorem dX7_tune_117 : decode cX7_tune 117 = .ok (.istore_n 3, 1) := by decide +kernel
theorem dX7_tune_118 : decode cX7_tune 118 = .ok (.iinc 4 1, 3) := by decide +kernel
theorem dX7_tune_121 : decode cX7_tune 121 = .ok (.goto (-68), 3) := by decide +kernel
theorem dX7_tune_124 : decode cX7_tune 124 = .ok (.iload_n 2, 1) := by decide +kernel
theorem dX7_tune_125 : decode cX7_tune 125 = .ok (.iload_n 3, 1) := by decide +kernel
theorem dX7_tune_126 : decode cX7_tune 126 = .ok (.iconst 1, 1) := by decide +kernel
theorem dX7_tune_127 : decode cX7_tune 127 = .ok (.isub, 1) := by decide +kernel
theorem dX7_tune_128 : decode cX7_tune 128 = .ok (.iconst 2, 1) := by decide +kernel
theorem dX7_tune_129 : decode cX7_tune 129 = .ok (.idiv, 1) := by decide +kernel
theorem dX7_tune_130 : decode cX7_tune 130 = .ok (.iadd, 1) := by decide +kernel
theorem dX7_tune_131 : decode cX7_tune 131 = .ok (.bipush 16, 2) := by decide +kernel
theorem dX7_tune_133 : decode cX7_tune 133 = .ok (.irem, 1) := by decide +kernel
theorem dX7_tune_134 : decode cX7_tune 134 = .ok (.istore 4, 2) := by decide +kernel
theorem dX7_tune_136 : decode cX7_tune 136 = .ok (.aload_n 0, 1) := by decide +kernel
theorem dX7_tune_137 : decode cX7_tune 137 = .ok (.bipush 21, 2) := by decide +kernel
theorem dX7_tune_139 : decode cX7_tune 139 = .ok (.iload 4, 2) := by decide +kernel
theorem dX7_tune_141 : decode cX7_tune 141 = .ok (.invokevirtual 258, 3) := by decide +kernel
theorem dX7_tune_144 : decode cX7_tune 144 = .ok (.pop, 1) := by decide +kernel
theorem dX7_tune_145 : decode cX7_tune 145 = .ok (.iload 4, 2) := by decide +kernel
theorem dX7_tune_147 : decode cX7_tune 147 = .ok (.ireturn, 1) := by decide +kernel
set_option maxRecDepth 20000 in
theorem ggX7_block_X7_in : GoodIn wsX7_block wsX7_in := goodIn_r _ [9] (by decide +kernel) (by decide +kernel)
set_option maxRecDepth 20000 in
theorem gX7_block_X7_in : GoodIn wsX7_block (va_wsS RX7 42 yX7_in wsX7_in) := goodIn_app (goodIn_of _ (by decide +kernel)) ggX7_block_X7_in
theorem dX7_block_0 : decode cX7_block 0 = .ok (.iload_n 1, 1) := by decide +kernel
theorem dX7_block_1 : decode cX7_block 1 = .ok (.i2l, 1) := by decide +kernel
theorem dX7_block_2 : decode cX7_block 2 = .ok (.lconst 0, 1) := by decide +kernel
theorem dX7_block_3 : decode cX7_block 3 = .ok (.aload_n 0, 1) := by decide +kernel
theorem dX7_block_4 : decode cX7_block 4 = .ok (.getfield 52, 3) := by decide +kernel
theorem dX7_block_7 : decode cX7_block 7 = .ok (.iconst 1, 1) := by decide +kernel
theorem dX7_block_8 : decode cX7_block 8 = .ok (.isub, 1) := by decide +kernel
theorem dX7_block_9 : decode cX7_block 9 = .ok (.i2l, 1) := by decide +kernel
theorem dX7_block_10 : decode cX7_block 10 = .ok (.invokestatic 42, 3) := by decide +kernel
theorem dX7_block_13 : decode cX7_block 13 = .ok (.ifCond .eq 15, 3) := by decide +kernel
theorem dX7_block_16 : decode cX7_block 16 = .ok (.iload_n 2, 1) := by decide +kernel
theorem dX7_block_17 : decode cX7_block 17 = .ok (.i2l, 1) := by decide +kernel
theorem dX7_block_18 : decode cX7_block 18 = .ok (.lconst 0, 1) := by decide +kernel
theorem dX7_block_19 : decode cX7_block 19 = .ok (.ldc2_w 261, 3) := by decide +kernel
theorem dX7_block_22 : decode cX7_block 22 = .ok (.invokestatic 42, 3) := by decide +kernel
theorem dX7_block_25 : decode cX7_block 25 = .ok (.ifCond .ne 5, 3) := by decide +kernel
theorem dX7_block_28 : decode cX7_block 28 = .ok (.iconst (-1), 1) := by decide +kernel
theorem dX7_block_29 : decode cX7_block 29 = .ok (.ireturn, 1) := by decide +kernel
theorem dX7_block_30 : decode cX7_block 30 = .ok (.iload_n 2, 1) := by decide +kernel
theorem dX7_block_31 : decode cX7_block 31 = .ok (.ifCond .ne 12, 3) := by decide +kernel
theorem dX7_block_34 : decode cX7_block 34 = .ok (.aload_n 0, 1) := by decide +kernel
theorem dX7_block_35 : decode cX7_block 35 = .ok (.getfield 13, 3) := by decide +kernel
theorem dX7_block_38 : decode cX7_block 38 = .ok (.iload_n 1, 1) := by decide +kernel
theorem dX7_block_39 : decode cX7_block 39 = .ok (.iaload, 1) := by decide +kernel
theorem dX7_block_40 : decode cX7_block 40 = .ok (.goto 23, 3) := by decide +kernel
theorem dX7_block_43 : decode cX7_block 43 = .ok (.iload_n 2, 1) := by decide +kernel
theorem dX7_block_44 : decode cX7_block 44 = .ok (.iconst 1, 1) := by decide +kernel
theorem dX7_block_45 : decode cX7_block 45 = .ok (.if_icmp .ne 12, 3) := by decide +kernel
theorem dX7_block_48 : decode cX7_block 48 = .ok (.aload_n 0, 1) := by decide +kernel
theorem dX7_block_49 : decode cX7_block 49 = .ok (.getfield 16, 3) := by decide +kernel
theorem dX7_block_52 : decode cX7_block 52 = .ok (.iload_n 1, 1) := by decide +kernel
theorem dX7_block_53 : decode cX7_block 53 = .ok (.iaload, 1) := by decide +kernel
theorem dX7_block_54 : decode cX7_block 54 = .ok (.goto 9, 3) := by decide +kernel
theorem dX7_block_57 : decode cX7_block 57 = .ok (.iload_n 1, 1) := by decide +kernel
theorem dX7_block_58 : decode cX7_block 58 = .ok (.aload_n 0, 1) := by decide +kernel
theorem dX7_block_59 : decode cX7_block 59 = .ok (.getfield 56, 3) := by decide +kernel
theorem dX7_block_62 : decode cX7_block 62 = .ok (.idiv, 1) := by decide +kernel
theorem dX7_block_63 : decode cX7_block 63 = .ok (.ireturn, 1) := by decide +kernel
theorem dX7_latest_0 : decode cX7_latest 0 = .ok (.iload_n 1, 1) := by decide +kernel
theorem dX7_latest_1 : decode cX7_latest 1 = .ok (.ifCond .ge 5, 3) := by decide +kernel
theorem dX7_latest_4 : decode cX7_latest 4 = .ok (.iconst (-1), 1) := by decide +kernel
theorem dX7_latest_5 : decode cX7_latest 5 = .ok (.ireturn, 1) := by decide +kernel
theorem dX7_latest_6 : decode cX7_latest 6 = .ok (.iload_n 1, 1) := by decide +kernel
theorem dX7_latest_7 : decode cX7_latest 7 = .ok (.aload_n 0, 1) := by decide +kernel
theorem dX7_latest_8 : decode cX7_latest 8 = .ok (.getfield 74, 3) := by decide +kernel
theorem dX7_latest_11 : decode cX7_latest 11 = .ok (.if_icmp .ge 12, 3) := by decide +kernel
theorem dX7_latest_14 : decode cX7_latest 14 = .ok (.aload_n 0, 1) := by decide +kernel
theorem dX7_latest_15 : decode cX7_latest 15 = .ok (.getfield 22, 3) := by decide +kernel
theorem dX7_latest_18 : decode cX7_latest 18 = .ok (.iload_n 1, 1) := by decide +kernel
theorem dX7_latest_19 : decode cX7_latest 19 = .ok (.iaload, 1) := by decide +kernel
theorem dX7_latest_20 : decode cX7_latest 20 = .ok (.goto 5, 3) := by decide +kernel
theorem dX7_latest_23 : decode cX7_latest 23 = .ok (.bipush (-4), 2) := by decide +kernel
theorem dX7_latest_25 : decode cX7_latest 25 = .ok (.ireturn, 1) := by decide +kernel
theorem dX7_word_0 : decode cX7_word 0 = .ok (.iload_n 1, 1) := by decide +kernel
theorem dX7_word_1 : decode cX7_word 1 = .ok (.iconst (-1), 1) := by decide +kernel
theorem dX7_word_2 : decode cX7_word 2 = .ok (.if_icmp .ge 5, 3) := by decide +kernel
theorem dX7_word_5 : decode cX7_word 5 = .ok (.iconst (-1), 1) := by decide +kernel
theorem dX7_word_6 : decode cX7_word 6 = .ok (.ireturn, 1) := by decide +kernel
theorem dX7_word_7 : decode cX7_word 7 = .ok (.iload_n 1, 1) := by decide +kernel
theorem dX7_word_8 : decode cX7_word 8 = .ok (.ifCond .ge 10, 3) := by decide +kernel
theorem dX7_word_11 : decode cX7_word 11 = .ok (.aload_n 0, 1) := by decide +kernel
theorem dX7_word_12 : decode cX7_word 12 = .ok (.getfield 71, 3) := by decide +kernel
theorem dX7_word_15 : decode cX7_word 15 = .ok (.goto 22, 3) := by decide +kernel
theorem dX7_word_18 : decode cX7_word 18 = .ok (.iload_n 1, 1) := by decide +kernel
theorem dX7_word_19 : decode cX7_word 19 = .ok (.aload_n 0, 1) := by decide +kernel
theorem dX7_word_20 : decode cX7_word 20 = .ok (.getfield 71, 3) := by decide +kernel
theorem dX7_word_23 : decode cX7_word 23 = .ok (.if_icmp .ge 12, 3) := by decide +kernel
theorem dX7_word_26 : decode cX7_word 26 = .ok (.aload_n 0, 1) := by decide +kernel
theorem dX7_word_27 : decode cX7_word 27 = .ok (.getfield 19, 3) := by decide +kernel
theorem dX7_word_30 : decode cX7_word 30 = .ok (.iload_n 1, 1) := by decide +kernel
theorem dX7_word_31 : decode cX7_word 31 = .ok (.iaload, 1) := by decide +kernel
theorem dX7_word_32 : decode cX7_word 32 = .ok (.goto 5, 3) := by decide +kernel
theorem dX7_word_35 : decode cX7_word 35 = .ok (.bipush (-4), 2) := by decide +kernel
theorem dX7_word_37 : decode cX7_word 37 = .ok (.ireturn, 1) := by decide +kernel
set_option maxRecDepth 20000 in
theorem ggX7_later_X7_in : GoodIn wsX7_later wsX7_in := goodIn_r _ [9] (by decide +kernel) (by decide +kernel)
set_option maxRecDepth 20000 in
theorem gX7_later_X7_in : GoodIn wsX7_later (va_wsS RX7 42 yX7_in wsX7_in) := goodIn_app (goodIn_of _ (by decide +kernel)) ggX7_later_X7_in
theorem dX7_later_0 : decode cX7_later 0 = .ok (.iload_n 1, 1) := by decide +kernel
theorem dX7_later_1 : decode cX7_later 1 = .ok (.iconst (-1), 1) := by decide +kernel
theorem dX7_later_2 : decode cX7_later 2 = .ok (.if_icmp .lt 15, 3) := by decide +kernel
theorem dX7_later_5 : decode cX7_later 5 = .ok (.iload_n 2, 1) := by decide +kernel
theorem dX7_later_6 : decode cX7_later 6 = .ok (.i2l, 1) := by decide +kernel
theorem dX7_later_7 : decode cX7_later 7 = .ok (.lconst 0, 1) := by decide +kernel
theorem dX7_later_8 : decode cX7_later 8 = .ok (.ldc2_w 261, 3) := by decide +kernel
theorem dX7_later_11 : decode cX7_later 11 = .ok (.invokestatic 42, 3) := by decide +kernel
theorem dX7_later_14 : decode cX7_later 14 = .ok (.ifCond .ne 5, 3) := by decide +kernel
theorem dX7_later_17 : decode cX7_later 17 = .ok (.iconst (-1), 1) := by decide +kernel
theorem dX7_later_18 : decode cX7_later 18 = .ok (.ireturn, 1) := by decide +kernel
theorem dX7_later_19 : decode cX7_later 19 = .ok (.iload_n 1, 1) := by decide +kernel
theorem dX7_later_20 : decode cX7_later 20 = .ok (.ifCond .lt 11, 3) := by decide +kernel
theorem dX7_later_23 : decode cX7_later 23 = .ok (.iload_n 1, 1) := by decide +kernel
theorem dX7_later_24 : decode cX7_later 24 = .ok (.aload_n 0, 1) := by decide +kernel
theorem dX7_later_25 : decode cX7_later 25 = .ok (.getfield 106, 3) := by decide +kernel
theorem dX7_later_28 : decode cX7_later 28 = .ok (.if_icmp .lt 17, 3) := by decide +kernel
theorem dX7_later_31 : decode cX7_later 31 = .ok (.iload_n 1, 1) := by decide +kernel
theorem dX7_later_32 : decode cX7_later 32 = .ok (.ifCond .ge 10, 3) := by decide +kernel
theorem dX7_later_35 : decode cX7_later 35 = .ok (.aload_n 0, 1) := by decide +kernel
theorem dX7_later_36 : decode cX7_later 36 = .ok (.getfield 106, 3) := by decide +kernel
theorem dX7_later_39 : decode cX7_later 39 = .ok (.goto 5, 3) := by decide +kernel
theorem dX7_later_42 : decode cX7_later 42 = .ok (.bipush (-4), 2) := by decide +kernel
theorem dX7_later_44 : decode cX7_later 44 = .ok (.ireturn, 1) := by decide +kernel
theorem dX7_later_45 : decode cX7_later 45 = .ok (.iload_n 2, 1) := by decide +kernel
theorem dX7_later_46 : decode cX7_later 46 = .ok (.ifCond .ne 12, 3) := by decide +kernel
theorem dX7_later_49 : decode cX7_later 49 = .ok (.aload_n 0, 1) := by decide +kernel
theorem dX7_later_50 : decode cX7_later 50 = .ok (.getfield 25, 3) := by decide +kernel
theorem dX7_later_53 : decode cX7_later 53 = .ok (.iload_n 1, 1) := by decide +kernel
theorem dX7_later_54 : decode cX7_later 54 = .ok (.iaload, 1) := by decide +kernel
theorem dX7_later_55 : decode cX7_later 55 = .ok (.goto 23, 3) := by decide +kernel
theorem dX7_later_58 : decode cX7_later 58 = .ok (.iload_n 2, 1) := by decide +kernel
theorem dX7_later_59 : decode cX7_later 59 = .ok (.iconst 1, 1) := by decide +kernel
theorem dX7_later_60 : decode cX7_later 60 = .ok (.if_icmp .ne 12, 3) := by decide +kernel
theorem dX7_later_63 : decode cX7_later 63 = .ok (.aload_n 0, 1) := by decide +kernel
theorem dX7_later_64 : decode cX7_later 64 = .ok (.getfield 28, 3) := by decide +kernel
theorem dX7_later_67 : decode cX7_later 67 = .ok (.iload_n 1, 1) := by decide +kernel
theorem dX7_later_68 : decode cX7_later 68 = .ok (.iaload, 1) := by decide +kernel
theorem dX7_later_69 : decode cX7_later 69 = .ok (.goto 9, 3) := by decide +kernel
theorem dX7_later_72 : decode cX7_later 72 = .ok (.aload_n 0, 1) := by decide +kernel
theorem dX7_later_73 : decode cX7_later 73 = .ok (.getfield 31, 3) := by decide +kernel
theorem dX7_later_76 : decode cX7_later 76 = .ok (.iload_n 1, 1) := by decide +kernel
theorem dX7_later_77 : decode cX7_later 77 = .ok (.iaload, 1) := by decide +kernel
theorem dX7_later_78 : decode cX7_later 78 = .ok (.ireturn, 1) := by decide +kernel
theorem dX7_blocksThat_0 : decode cX7_blocksThat 0 = .ok (.iconst 0, 1) := by decide +kernel
theorem dX7_blocksThat_1 : decode cX7_blocksThat 1 = .ok (.istore_n 2, 1) := by decide +kernel
theorem dX7_blocksThat_2 : decode cX7_blocksThat 2 = .ok (.iconst 0, 1) := by decide +kernel
theorem dX7_blocksThat_3 : decode cX7_blocksThat 3 = .ok (.istore_n 3, 1) := by decide +kernel
theorem dX7_blocksThat_4 : decode cX7_blocksThat 4 = .ok (.iload_n 3, 1) := by decide +kernel
theorem dX7_blocksThat_5 : decode cX7_blocksThat 5 = .ok (.aload_n 0, 1) := by decide +kernel
theorem dX7_blocksThat_6 : decode cX7_blocksThat 6 = .ok (.getfield 52, 3) := by decide +kernel
theorem dX7_blocksThat_9 : decode cX7_blocksThat 9 = .ok (.if_icmp .ge 41, 3) := by decide +kernel
theorem dX7_blocksThat_12 : decode cX7_blocksThat 12 = .ok (.iload_n 2, 1) := by decide +kernel
theorem dX7_blocksThat_13 : decode cX7_blocksThat 13 = .ok (.iload_n 1, 1) := by decide +kernel
theorem dX7_blocksThat_14 : decode cX7_blocksThat 14 = .ok (.ifCond .eq 12, 3) := by decide +kernel
end
section
theorem dX7_blocksThat_17 : decode cX7_blocksThat 17 = .ok (.aload_n 0, 1) := by decide +kernel
theorem dX7_blocksThat_18 : decode cX7_blocksThat 18 = .ok (.getfield 16, 3) := by decide +kernel
theorem dX7_blocksThat_21 : decode cX7_blocksThat 21 = .ok (.iload_n 3, 1) := by decide +kernel
theorem dX7_blocksThat_22 : decode cX7_blocksThat 22 = .ok (.iaload, 1) := by decide +kernel
theorem dX7_blocksThat_23 : decode cX7_blocksThat 23 = .ok (.goto 19, 3) := by decide +kernel
theorem dX7_blocksThat_26 : decode cX7_blocksThat 26 = .ok (.aload_n 0, 1) := by decide +kernel
theorem dX7_blocksThat_27 : decode cX7_blocksThat 27 = .ok (.getfield 13, 3) := by decide +kernel
theorem dX7_blocksThat_30 : decode cX7_blocksThat 30 = .ok (.iload_n 3, 1) := by decide +kernel
theorem dX7_blocksThat_31 : decode cX7_blocksThat 31 = .ok (.iaload, 1) := by decide +kernel
theorem dX7_blocksThat_32 : decode cX7_blocksThat 32 = .ok (.ldc 77, 2) := by decide +kernel
theorem dX7_blocksThat_34 : decode cX7_blocksThat 34 = .ok (.if_icmp .eq 7, 3) := by decide +kernel
theorem dX7_blocksThat_37 : decode cX7_blocksThat 37 = .ok (.iconst 1, 1) := by decide +kernel
theorem dX7_blocksThat_38 : decode cX7_blocksThat 38 = .ok (.goto 4, 3) := by decide +kernel
theorem dX7_blocksThat_41 : decode cX7_blocksThat 41 = .ok (.iconst 0, 1) := by decide +kernel
theorem dX7_blocksThat_42 : decode cX7_blocksThat 42 = .ok (.iadd, 1) := by decide +kernel
theorem dX7_blocksThat_43 : decode cX7_blocksThat 43 = .ok (.istore_n 2, 1) := by decide +kernel
theorem dX7_blocksThat_44 : decode cX7_blocksThat 44 = .ok (.iinc 3 1, 3) := by decide +kernel
theorem dX7_blocksThat_47 : decode cX7_blocksThat 47 = .ok (.goto (-43), 3) := by decide +kernel
theorem dX7_blocksThat_50 : decode cX7_blocksThat 50 = .ok (.iload_n 2, 1) := by decide +kernel
theorem dX7_blocksThat_51 : decode cX7_blocksThat 51 = .ok (.ireturn, 1) := by decide +kernel
theorem dX7_countPower_0 : decode cX7_countPower 0 = .ok (.iload_n 1, 1) := by decide +kernel
theorem dX7_countPower_1 : decode cX7_countPower 1 = .ok (.tableswitch 84 3 8 #[39, 44, 49, 54, 59, 79], 39) := by decide +kernel
theorem dX7_countPower_40 : decode cX7_countPower 40 = .ok (.aload_n 0, 1) := by decide +kernel
theorem dX7_countPower_41 : decode cX7_countPower 41 = .ok (.getfield 88, 3) := by decide +kernel
theorem dX7_countPower_44 : decode cX7_countPower 44 = .ok (.ireturn, 1) := by decide +kernel
theorem dX7_countPower_45 : decode cX7_countPower 45 = .ok (.aload_n 0, 1) := by decide +kernel
theorem dX7_countPower_46 : decode cX7_countPower 46 = .ok (.getfield 91, 3) := by decide +kernel
theorem dX7_countPower_49 : decode cX7_countPower 49 = .ok (.ireturn, 1) := by decide +kernel
theorem dX7_countPower_50 : decode cX7_countPower 50 = .ok (.aload_n 0, 1) := by decide +kernel
theorem dX7_countPower_51 : decode cX7_countPower 51 = .ok (.getfield 94, 3) := by decide +kernel
theorem dX7_countPower_54 : decode cX7_countPower 54 = .ok (.ireturn, 1) := by decide +kernel
theorem dX7_countPower_55 : decode cX7_countPower 55 = .ok (.aload_n 0, 1) := by decide +kernel
theorem dX7_countPower_56 : decode cX7_countPower 56 = .ok (.getfield 97, 3) := by decide +kernel
theorem dX7_countPower_59 : decode cX7_countPower 59 = .ok (.ireturn, 1) := by decide +kernel
theorem dX7_countPower_60 : decode cX7_countPower 60 = .ok (.aload_n 0, 1) := by decide +kernel
theorem dX7_countPower_61 : decode cX7_countPower 61 = .ok (.getfield 78, 3) := by decide +kernel
theorem dX7_countPower_64 : decode cX7_countPower 64 = .ok (.ifCond .eq 14, 3) := by decide +kernel
theorem dX7_countPower_67 : decode cX7_countPower 67 = .ok (.aload_n 0, 1) := by decide +kernel
theorem dX7_countPower_68 : decode cX7_countPower 68 = .ok (.getfield 100, 3) := by decide +kernel
theorem dX7_countPower_71 : decode cX7_countPower 71 = .ok (.ifCond .eq 7, 3) := by decide +kernel
theorem dX7_countPower_74 : decode cX7_countPower 74 = .ok (.iconst 1, 1) := by decide +kernel
theorem dX7_countPower_75 : decode cX7_countPower 75 = .ok (.goto 4, 3) := by decide +kernel
theorem dX7_countPower_78 : decode cX7_countPower 78 = .ok (.iconst 0, 1) := by decide +kernel
theorem dX7_countPower_79 : decode cX7_countPower 79 = .ok (.ireturn, 1) := by decide +kernel
theorem dX7_countPower_80 : decode cX7_countPower 80 = .ok (.aload_n 0, 1) := by decide +kernel
theorem dX7_countPower_81 : decode cX7_countPower 81 = .ok (.getfield 103, 3) := by decide +kernel
theorem dX7_countPower_84 : decode cX7_countPower 84 = .ok (.ireturn, 1) := by decide +kernel
theorem dX7_countPower_85 : decode cX7_countPower 85 = .ok (.aload_n 0, 1) := by decide +kernel
theorem dX7_countPower_86 : decode cX7_countPower 86 = .ok (.getfield 109, 3) := by decide +kernel
theorem dX7_countPower_89 : decode cX7_countPower 89 = .ok (.ireturn, 1) := by decide +kernel
set_option maxRecDepth 20000 in
theorem ggX7_count_X7_countPower : GoodIn wsX7_count wsX7_countPower := goodIn_r _ [15, 16, 17, 18, 19, 1, 20, 21, 22, 34, 35, 36, 37, 38, 39, 40, 41, 42, 43, 44, 45, 46, 47, 48, 49, 50, 51, 52, 53, 54, 55, 56, 57, 58, 59, 60, 61, 62, 63, 64, 65, 66, 67, 68, 69, 70, 71] (by decide +kernel) (by decide +kernel)
set_option maxRecDepth 20000 in
theorem gX7_count_X7_countPower : GoodIn wsX7_count (wsV RX7 263 RX7 yX7_countPower wsX7_countPower) := goodIn_app (goodIn_of _ (by decide +kernel)) ggX7_count_X7_countPower
set_option maxRecDepth 20000 in
theorem ggX7_count_X7_blocksThat : GoodIn wsX7_count wsX7_blocksThat := goodIn_r _ [26, 3, 27, 28, 29, 34, 35, 36, 37, 38, 39, 40, 41, 42, 43, 44, 45, 46, 47, 48, 49, 50, 51, 52, 53, 54, 55, 56, 57, 58, 59, 60, 61, 62, 63, 64, 65, 66, 67, 68, 69, 70, 71] (by decide +kernel) (by decide +kernel)
set_option maxRecDepth 20000 in
theorem gX7_count_X7_blocksThat : GoodIn wsX7_count (wsV RX7 266 RX7 yX7_blocksThat wsX7_blocksThat) := goodIn_app (goodIn_of _ (by decide +kernel)) ggX7_count_X7_blocksThat
set_option maxRecDepth 20000 in
theorem ggX7_count_X7_isInWindow : GoodIn wsX7_count wsX7_isInWindow := goodIn_r _ [33, 19, 18, 7, 34, 35, 36, 37, 38, 39, 40, 41, 42, 43, 44, 45, 46, 47, 48, 49, 50, 51, 52, 53, 54, 55, 56, 57, 58, 59, 60, 61, 62, 63, 64, 65, 66, 67, 68, 69, 70, 71] (by decide +kernel) (by decide +kernel)
set_option maxRecDepth 20000 in
theorem gX7_count_X7_isInWindow : GoodIn wsX7_count (wsV RX7 212 RX7 yX7_isInWindow wsX7_isInWindow) := goodIn_app (goodIn_of _ (by decide +kernel)) ggX7_count_X7_isInWindow
theorem dX7_count_0 : decode cX7_count 0 = .ok (.aload_n 0, 1) := by decide +kernel
theorem dX7_count_1 : decode cX7_count 1 = .ok (.getfield 78, 3) := by decide +kernel
theorem dX7_count_4 : decode cX7_count 4 = .ok (.ifCond .eq 24, 3) := by decide +kernel
theorem dX7_count_7 : decode cX7_count 7 = .ok (.aload_n 0, 1) := by decide +kernel
theorem dX7_count_8 : decode cX7_count 8 = .ok (.getfield 85, 3) := by decide +kernel
theorem dX7_count_11 : decode cX7_count 11 = .ok (.iconst 5, 1) := by decide +kernel
theorem dX7_count_12 : decode cX7_count 12 = .ok (.if_icmp .eq 12, 3) := by decide +kernel
theorem dX7_count_15 : decode cX7_count 15 = .ok (.aload_n 0, 1) := by decide +kernel
theorem dX7_count_16 : decode cX7_count 16 = .ok (.getfield 85, 3) := by decide +kernel
theorem dX7_count_19 : decode cX7_count 19 = .ok (.bipush 6, 2) := by decide +kernel
theorem dX7_count_21 : decode cX7_count 21 = .ok (.if_icmp .ne 7, 3) := by decide +kernel
theorem dX7_count_24 : decode cX7_count 24 = .ok (.iconst 1, 1) := by decide +kernel
theorem dX7_count_25 : decode cX7_count 25 = .ok (.goto 4, 3) := by decide +kernel
theorem dX7_count_28 : decode cX7_count 28 = .ok (.iconst 0, 1) := by decide +kernel
theorem dX7_count_29 : decode cX7_count 29 = .ok (.istore_n 2, 1) := by decide +kernel
theorem dX7_count_30 : decode cX7_count 30 = .ok (.iload_n 1, 1) := by decide +kernel
theorem dX7_count_31 : decode cX7_count 31 = .ok (.tableswitch 206 0 18 #[89, 94, 99, 116, 116, 116, 116, 116, 116, 122, 116, 127, 133, 138, 143, 148, 173, 187, 193], 89) := by decide +kernel
theorem dX7_count_120 : decode cX7_count 120 = .ok (.aload_n 0, 1) := by decide +kernel
theorem dX7_count_121 : decode cX7_count 121 = .ok (.getfield 52, 3) := by decide +kernel
theorem dX7_count_124 : decode cX7_count 124 = .ok (.ireturn, 1) := by decide +kernel
theorem dX7_count_125 : decode cX7_count 125 = .ok (.aload_n 0, 1) := by decide +kernel
theorem dX7_count_126 : decode cX7_count 126 = .ok (.getfield 56, 3) := by decide +kernel
theorem dX7_count_129 : decode cX7_count 129 = .ok (.ireturn, 1) := by decide +kernel
theorem dX7_count_130 : decode cX7_count 130 = .ok (.aload_n 0, 1) := by decide +kernel
theorem dX7_count_131 : decode cX7_count 131 = .ok (.getfield 78, 3) := by decide +kernel
theorem dX7_count_134 : decode cX7_count 134 = .ok (.ifCond .eq 10, 3) := by decide +kernel
theorem dX7_count_137 : decode cX7_count 137 = .ok (.aload_n 0, 1) := by decide +kernel
theorem dX7_count_138 : decode cX7_count 138 = .ok (.getfield 85, 3) := by decide +kernel
theorem dX7_count_141 : decode cX7_count 141 = .ok (.goto 5, 3) := by decide +kernel
theorem dX7_count_144 : decode cX7_count 144 = .ok (.bipush (-4), 2) := by decide +kernel
theorem dX7_count_146 : decode cX7_count 146 = .ok (.ireturn, 1) := by decide +kernel
theorem dX7_count_147 : decode cX7_count 147 = .ok (.aload_n 0, 1) := by decide +kernel
theorem dX7_count_148 : decode cX7_count 148 = .ok (.iload_n 1, 1) := by decide +kernel
theorem dX7_count_149 : decode cX7_count 149 = .ok (.invokevirtual 263, 3) := by decide +kernel
theorem dX7_count_152 : decode cX7_count 152 = .ok (.ireturn, 1) := by decide +kernel
theorem dX7_count_153 : decode cX7_count 153 = .ok (.aload_n 0, 1) := by decide +kernel
theorem dX7_count_154 : decode cX7_count 154 = .ok (.getfield 68, 3) := by decide +kernel
theorem dX7_count_157 : decode cX7_count 157 = .ok (.ireturn, 1) := by decide +kernel
theorem dX7_count_158 : decode cX7_count 158 = .ok (.aload_n 0, 1) := by decide +kernel
theorem dX7_count_159 : decode cX7_count 159 = .ok (.iconst 1, 1) := by decide +kernel
theorem dX7_count_160 : decode cX7_count 160 = .ok (.invokevirtual 266, 3) := by decide +kernel
theorem dX7_count_163 : decode cX7_count 163 = .ok (.ireturn, 1) := by decide +kernel
theorem dX7_count_164 : decode cX7_count 164 = .ok (.aload_n 0, 1) := by decide +kernel
theorem dX7_count_165 : decode cX7_count 165 = .ok (.getfield 65, 3) := by decide +kernel
theorem dX7_count_168 : decode cX7_count 168 = .ok (.ireturn, 1) := by decide +kernel
theorem dX7_count_169 : decode cX7_count 169 = .ok (.aload_n 0, 1) := by decide +kernel
theorem dX7_count_170 : decode cX7_count 170 = .ok (.getfield 152, 3) := by decide +kernel
theorem dX7_count_173 : decode cX7_count 173 = .ok (.ireturn, 1) := by decide +kernel
theorem dX7_count_174 : decode cX7_count 174 = .ok (.aload_n 0, 1) := by decide +kernel
theorem dX7_count_175 : decode cX7_count 175 = .ok (.getfield 159, 3) := by decide +kernel
theorem dX7_count_178 : decode cX7_count 178 = .ok (.ireturn, 1) := by decide +kernel
theorem dX7_count_179 : decode cX7_count 179 = .ok (.iload_n 2, 1) := by decide +kernel
theorem dX7_count_180 : decode cX7_count 180 = .ok (.ifCond .eq 21, 3) := by decide +kernel
theorem dX7_count_183 : decode cX7_count 183 = .ok (.aload_n 0, 1) := by decide +kernel
theorem dX7_count_184 : decode cX7_count 184 = .ok (.getfield 124, 3) := by decide +kernel
theorem dX7_count_187 : decode cX7_count 187 = .ok (.aload_n 0, 1) := by decide +kernel
theorem dX7_count_188 : decode cX7_count 188 = .ok (.getfield 52, 3) := by decide +kernel
theorem dX7_count_191 : decode cX7_count 191 = .ok (.if_icmp .ge 10, 3) := by decide +kernel
theorem dX7_count_194 : decode cX7_count 194 = .ok (.aload_n 0, 1) := by decide +kernel
theorem dX7_count_195 : decode cX7_count 195 = .ok (.getfield 124, 3) := by decide +kernel
theorem dX7_count_198 : decode cX7_count 198 = .ok (.goto 5, 3) := by decide +kernel
theorem dX7_count_201 : decode cX7_count 201 = .ok (.bipush (-4), 2) := by decide +kernel
theorem dX7_count_203 : decode cX7_count 203 = .ok (.ireturn, 1) := by decide +kernel
theorem dX7_count_204 : decode cX7_count 204 = .ok (.iload_n 2, 1) := by decide +kernel
theorem dX7_count_205 : decode cX7_count 205 = .ok (.ifCond .eq 10, 3) := by decide +kernel
theorem dX7_count_208 : decode cX7_count 208 = .ok (.aload_n 0, 1) := by decide +kernel
theorem dX7_count_209 : decode cX7_count 209 = .ok (.getfield 127, 3) := by decide +kernel
theorem dX7_count_212 : decode cX7_count 212 = .ok (.goto 5, 3) := by decide +kernel
theorem dX7_count_215 : decode cX7_count 215 = .ok (.bipush (-4), 2) := by decide +kernel
theorem dX7_count_217 : decode cX7_count 217 = .ok (.ireturn, 1) := by decide +kernel
theorem dX7_count_218 : decode cX7_count 218 = .ok (.aload_n 0, 1) := by decide +kernel
theorem dX7_count_219 : decode cX7_count 219 = .ok (.iconst 0, 1) := by decide +kernel
theorem dX7_count_220 : decode cX7_count 220 = .ok (.invokevirtual 266, 3) := by decide +kernel
theorem dX7_count_223 : decode cX7_count 223 = .ok (.ireturn, 1) := by decide +kernel
theorem dX7_count_224 : decode cX7_count 224 = .ok (.aload_n 0, 1) := by decide +kernel
theorem dX7_count_225 : decode cX7_count 225 = .ok (.invokevirtual 212, 3) := by decide +kernel
theorem dX7_count_228 : decode cX7_count 228 = .ok (.ifCond .eq 7, 3) := by decide +kernel
theorem dX7_count_231 : decode cX7_count 231 = .ok (.iconst 1, 1) := by decide +kernel
theorem dX7_count_232 : decode cX7_count 232 = .ok (.goto 4, 3) := by decide +kernel
theorem dX7_count_235 : decode cX7_count 235 = .ok (.iconst 0, 1) := by decide +kernel
theorem dX7_count_236 : decode cX7_count 236 = .ok (.ireturn, 1) := by decide +kernel
theorem dX7_count_237 : decode cX7_count 237 = .ok (.iconst (-1), 1) := by decide +kernel
theorem dX7_count_238 : decode cX7_count 238 = .ok (.ireturn, 1) := by decide +kernel
theorem dJ9_floorMod_7cf53_0 : decode cJ9_floorMod_7cf53 0 = .ok (.iload_n 0, 1) := by decide +kernel
theorem dJ9_floorMod_7cf53_1 : decode cJ9_floorMod_7cf53 1 = .ok (.iload_n 1, 1) := by decide +kernel
theorem dJ9_floorMod_7cf53_2 : decode cJ9_floorMod_7cf53 2 = .ok (.irem, 1) := by decide +kernel
theorem dJ9_floorMod_7cf53_3 : decode cJ9_floorMod_7cf53 3 = .ok (.istore_n 2, 1) := by decide +kernel
theorem dJ9_floorMod_7cf53_4 : decode cJ9_floorMod_7cf53 4 = .ok (.iload_n 0, 1) := by decide +kernel
theorem dJ9_floorMod_7cf53_5 : decode cJ9_floorMod_7cf53 5 = .ok (.iload_n 1, 1) := by decide +kernel
theorem dJ9_floorMod_7cf53_6 : decode cJ9_floorMod_7cf53 6 = .ok (.ixor, 1) := by decide +kernel
theorem dJ9_floorMod_7cf53_7 : decode cJ9_floorMod_7cf53 7 = .ok (.ifCond .ge 11, 3) := by decide +kernel
theorem dJ9_floorMod_7cf53_10 : decode cJ9_floorMod_7cf53 10 = .ok (.iload_n 2, 1) := by decide +kernel
theorem dJ9_floorMod_7cf53_11 : decode cJ9_floorMod_7cf53 11 = .ok (.ifCond .eq 7, 3) := by decide +kernel
theorem dJ9_floorMod_7cf53_14 : decode cJ9_floorMod_7cf53 14 = .ok (.iload_n 2, 1) := by decide +kernel
theorem dJ9_floorMod_7cf53_15 : decode cJ9_floorMod_7cf53 15 = .ok (.iload_n 1, 1) := by decide +kernel
theorem dJ9_floorMod_7cf53_16 : decode cJ9_floorMod_7cf53 16 = .ok (.iadd, 1) := by decide +kernel
theorem dJ9_floorMod_7cf53_17 : decode cJ9_floorMod_7cf53 17 = .ok (.ireturn, 1) := by decide +kernel
theorem dJ9_floorMod_7cf53_18 : decode cJ9_floorMod_7cf53 18 = .ok (.iload_n 2, 1) := by decide +kernel
theorem dJ9_floorMod_7cf53_19 : decode cJ9_floorMod_7cf53 19 = .ok (.ireturn, 1) := by decide +kernel
theorem dJ9_max_7cf53_0 : decode cJ9_max_7cf53 0 = .ok (.iload_n 0, 1) := by decide +kernel
theorem dJ9_max_7cf53_1 : decode cJ9_max_7cf53 1 = .ok (.iload_n 1, 1) := by decide +kernel
theorem dJ9_max_7cf53_2 : decode cJ9_max_7cf53 2 = .ok (.if_icmp .lt 7, 3) := by decide +kernel
theorem dJ9_max_7cf53_5 : decode cJ9_max_7cf53 5 = .ok (.iload_n 0, 1) := by decide +kernel
theorem dJ9_max_7cf53_6 : decode cJ9_max_7cf53 6 = .ok (.goto 4, 3) := by decide +kernel
theorem dJ9_max_7cf53_9 : decode cJ9_max_7cf53 9 = .ok (.iload_n 1, 1) := by decide +kernel
theorem dJ9_max_7cf53_10 : decode cJ9_max_7cf53 10 = .ok (.ireturn, 1) := by decide +kernel
theorem dJ9_min_7cf53_0 : decode cJ9_min_7cf53 0 = .ok (.iload_n 0, 1) := by decide +kernel
theorem dJ9_min_7cf53_1 : decode cJ9_min_7cf53 1 = .ok (.iload_n 1, 1) := by decide +kernel
theorem dJ9_min_7cf53_2 : decode cJ9_min_7cf53 2 = .ok (.if_icmp .gt 7, 3) := by decide +kernel
theorem dJ9_min_7cf53_5 : decode cJ9_min_7cf53 5 = .ok (.iload_n 0, 1) := by decide +kernel
theorem dJ9_min_7cf53_6 : decode cJ9_min_7cf53 6 = .ok (.goto 4, 3) := by decide +kernel
theorem dJ9_min_7cf53_9 : decode cJ9_min_7cf53 9 = .ok (.iload_n 1, 1) := by decide +kernel
theorem dJ9_min_7cf53_10 : decode cJ9_min_7cf53 10 = .ok (.ireturn, 1) := by decide +kernel
set_option maxRecDepth 20000 in
theorem ggL_law_X6_init : GoodIn wsL_law wsX6_init := goodIn_r _ [8, 9, 10, 11, 12, 13, 14, 15, 16, 17, 18, 19, 20, 21, 22, 23, 24, 25, 26, 27, 28, 29, 30, 31, 32, 33, 34, 35, 36, 37, 38, 39, 40, 41, 42, 43, 44, 45, 46, 47, 48, 49, 50, 51, 52, 53, 54, 55, 56, 57, 58, 59, 60, 61, 62, 63, 64, 65, 66, 67, 68, 69, 70, 2, 71, 72, 73, 74, 75, 76, 77, 78, 79, 80, 81, 82, 83, 84, 85, 86, 87, 88, 89, 90, 91, 92, 93, 94, 95, 96, 97, 98, 99, 100, 101, 102, 103, 104, 105, 106, 107, 108, 109, 110, 111, 112, 113, 114, 115, 116, 117, 118, 119, 120, 121, 122, 123, 124, 125, 126, 127, 128, 129, 130, 131, 132, 133, 134, 135, 136, 137, 915, 916, 917, 918, 919, 920, 860, 861, 862, 863, 864, 865, 866, 867, 868, 869, 870, 871, 872, 873, 874, 875, 876, 921, 922, 923, 924, 925, 926, 927, 928, 929, 930, 931, 932, 933, 934, 935, 936, 937, 938, 939, 940] (by decide +kernel) (by decide +kernel)
set_option maxRecDepth 20000 in
theorem gL_law_X6_init : GoodIn wsL_law (wsX6_init) := ggL_law_X6_init
set_option maxRecDepth 20000 in
theorem ggL_law_X7_init : GoodIn wsL_law wsX7_init := goodIn_r _ [140, 141, 10, 11, 40, 142, 143, 144, 145, 146, 147, 148, 149, 150, 151, 152, 5, 153, 154, 155, 156, 157, 158, 159, 160, 161, 162, 163, 164, 165, 166, 167, 168, 169, 170, 171, 172, 173, 174, 175, 176, 177, 178, 179, 180, 181, 182, 183, 184, 185, 186, 187, 188, 189, 190, 191, 877, 878, 879, 880, 881, 882, 883, 884, 885, 886, 887, 888, 889, 890, 891, 892, 893, 894, 895, 896, 897, 898, 899, 900, 901, 902, 903, 904, 905, 906, 907, 908, 909, 910, 911, 912, 913, 914] (by decide +kernel) (by decide +kernel)
set_option maxRecDepth 20000 in
theorem gL_law_X7_init : GoodIn wsL_law (wsX7_init) := ggL_law_X7_init
set_option maxRecDepth 20000 in
theorem ggL_law_X6_make : GoodIn wsL_law wsX6_make := goodIn_r _ [195, 196, 197, 198, 2, 199, 68, 69, 70, 71, 72, 73, 15, 20, 74, 75, 76, 77, 78, 14, 79, 80, 81, 51, 82, 83, 50, 52, 84, 85, 86, 41, 87, 43, 88, 89, 90, 18, 91, 92, 93, 94, 95, 96, 97, 98, 99, 100, 101, 36, 24, 28, 32, 102, 103, 104, 35, 105, 106, 107, 108, 109, 110, 111, 23, 112, 113, 114, 115, 116, 117, 27, 118, 119, 120, 121, 122, 123, 124, 125, 126, 127, 128, 129, 130, 131, 31, 132, 133, 134, 135, 136, 137, 860, 861, 862, 863, 864, 865, 866, 867, 868, 869, 870, 871, 872, 873, 874, 875, 876, 915, 916, 917, 918, 919, 920, 921, 922, 938, 939, 940, 923, 924, 925, 926, 927, 928, 929, 930, 931, 932, 933, 934, 935, 936, 937] (by decide +kernel) (by decide +kernel)
set_option maxRecDepth 20000 in
theorem gL_law_X6_make : GoodIn wsL_law (wsV RL 13 RX6 yX6_make wsX6_make) := goodIn_app (goodIn_of _ (by decide +kernel)) ggL_law_X6_make
set_option maxRecDepth 20000 in
theorem ggL_law_X7_make : GoodIn wsL_law wsX7_make := goodIn_r _ [153, 154, 155, 156, 157, 158, 159, 160, 161, 162, 163, 164, 165, 166, 143, 167, 144, 168, 169, 170, 5, 171, 172, 173, 174, 175, 176, 177, 178, 179, 180, 181, 182, 183, 184, 185, 186, 187, 188, 189, 190, 191, 877, 878, 879, 880, 881, 882, 883, 884, 885, 886, 887, 888, 889, 890, 891, 892, 893, 894, 895, 896, 897, 898, 899, 900, 901, 902, 903, 904, 905, 906, 907, 908, 909, 910, 911, 912, 913, 914] (by decide +kernel) (by decide +kernel)
set_option maxRecDepth 20000 in
theorem gL_law_X7_make : GoodIn wsL_law (wsV RL 17 RX7 yX7_make wsX7_make) := goodIn_app (goodIn_of _ (by decide +kernel)) ggL_law_X7_make
set_option maxRecDepth 20000 in
theorem ggL_law_X6_power : GoodIn wsL_law wsX6_power := goodIn_r _ [204, 197, 198, 2, 199, 205, 206, 207, 208, 97, 209, 210, 211, 212, 20, 101, 93, 94, 95, 96, 98, 99, 100, 36, 24, 28, 32, 102, 103, 104, 35, 105, 106, 107, 108, 109, 110, 111, 23, 112, 113, 114, 115, 116, 117, 27, 118, 119, 120, 121, 122, 123, 124, 125, 126, 127, 128, 129, 130, 131, 31, 132, 133, 134, 135, 136, 137, 213, 214, 215, 18, 216, 92, 217, 218, 219, 220, 15, 221, 222, 223, 224, 225, 226, 227, 228, 57, 58, 229, 230, 231, 14, 232, 233, 234, 235, 236, 84, 80, 81, 51, 82, 83, 50, 52, 41, 87, 43, 237, 238, 239, 240, 86, 44, 241, 242, 243, 244, 245, 246, 247, 248, 249, 250, 251, 252, 85, 860, 861, 862, 863, 864, 865, 866, 867, 868, 869, 870, 871, 872, 873, 874, 875, 876, 938, 939, 940, 923, 924, 925, 926, 927, 928, 929, 930, 931, 932, 933, 934, 935, 936, 937, 921, 922, 915, 916, 917, 918, 919, 920] (by decide +kernel) (by decide +kernel)
set_option maxRecDepth 20000 in
theorem gL_law_X6_power : GoodIn wsL_law (wsV RL 18 RX6 yX6_power wsX6_power) := goodIn_app (goodIn_of _ (by decide +kernel)) ggL_law_X6_power
set_option maxRecDepth 20000 in
theorem ggL_law_X7_power : GoodIn wsL_law wsX7_power := goodIn_r _ [256, 168, 169, 170, 5, 171, 257, 258, 259, 260, 183, 149, 147, 184, 185, 261, 262, 263, 264, 265, 143, 167, 144, 266, 267, 268, 269, 166, 146, 270, 271, 272, 273, 160, 159, 172, 173, 174, 175, 176, 177, 178, 179, 180, 165, 181, 182, 186, 187, 188, 189, 190, 191, 877, 878, 879, 880, 881, 882, 883, 884, 885, 886, 887, 888, 889, 890, 891, 892, 893, 894, 895, 896, 897, 898, 899, 900, 901, 902, 903, 904, 905, 906, 907, 908, 909, 910, 911, 912, 913, 914] (by decide +kernel) (by decide +kernel)
set_option maxRecDepth 20000 in
theorem gL_law_X7_power : GoodIn wsL_law (wsV RL 22 RX7 yX7_power wsX7_power) := goodIn_app (goodIn_of _ (by decide +kernel)) ggL_law_X7_power
set_option maxRecDepth 20000 in
theorem ggL_law_X6_warm : GoodIn wsL_law wsX6_warm := goodIn_r _ [277, 278, 197, 198, 2, 199, 860, 861, 862, 863, 864, 865, 866, 867, 868, 869, 870, 871, 872, 873, 874, 875, 876] (by decide +kernel) (by decide +kernel)
set_option maxRecDepth 20000 in
theorem gL_law_X6_warm : GoodIn wsL_law (wsV RL 23 RX6 yX6_warm wsX6_warm) := goodIn_app (goodIn_of _ (by decide +kernel)) ggL_law_X6_warm
set_option maxRecDepth 20000 in
theorem ggL_law_X7_warm : GoodIn wsL_law wsX7_warm := goodIn_r _ [282, 283, 284, 169, 170, 5, 171, 877, 878, 879, 880, 881, 882, 883, 884, 885, 886, 887, 888, 889, 890, 891, 892, 893, 894, 895, 896, 897, 898, 899, 900, 901, 902, 903, 904, 905, 906, 907, 908, 909, 910, 911, 912, 913, 914] (by decide +kernel) (by decide +kernel)
set_option maxRecDepth 20000 in
theorem gL_law_X7_warm : GoodIn wsL_law (wsV RL 26 RX7 yX7_warm wsX7_warm) := goodIn_app (goodIn_of _ (by decide +kernel)) ggL_law_X7_warm
set_option maxRecDepth 20000 in
theorem ggL_law_X6_write : GoodIn wsL_law wsX6_write := goodIn_r _ [288, 19, 197, 198, 2, 199, 289, 290, 291, 18, 292, 92, 53, 213, 214, 215, 216, 860, 861, 862, 863, 864, 865, 866, 867, 868, 869, 870, 871, 872, 873, 874, 875, 876, 921, 922] (by decide +kernel) (by decide +kernel)
set_option maxRecDepth 20000 in
theorem gL_law_X6_write : GoodIn wsL_law (wsV RL 27 RX6 yX6_write wsX6_write) := goodIn_app (goodIn_of _ (by decide +kernel)) ggL_law_X6_write
set_option maxRecDepth 20000 in
theorem ggL_law_X7_write : GoodIn wsL_law wsX7_write := goodIn_r _ [296, 297, 298, 299, 142, 169, 170, 5, 171, 877, 878, 879, 880, 881, 882, 883, 884, 885, 886, 887, 888, 889, 890, 891, 892, 893, 894, 895, 896, 897, 898, 899, 900, 901, 902, 903, 904, 905, 906, 907, 908, 909, 910, 911, 912, 913, 914] (by decide +kernel) (by decide +kernel)
set_option maxRecDepth 20000 in
theorem gL_law_X7_write : GoodIn wsL_law (wsV RL 30 RX7 yX7_write wsX7_write) := goodIn_app (goodIn_of _ (by decide +kernel)) ggL_law_X7_write
set_option maxRecDepth 20000 in
theorem ggL_law_X6_wipe : GoodIn wsL_law wsX6_wipe := goodIn_r _ [303, 19, 213, 214, 215, 18, 216, 92, 88, 89, 90, 91, 860, 861, 862, 863, 864, 865, 866, 867, 868, 869, 870, 871, 872, 873, 874, 875, 876, 921, 922] (by decide +kernel) (by decide +kernel)
set_option maxRecDepth 20000 in
theorem gL_law_X6_wipe : GoodIn wsL_law (wsV RL 31 RX6 yX6_wipe wsX6_wipe) := goodIn_app (goodIn_of _ (by decide +kernel)) ggL_law_X6_wipe
set_option maxRecDepth 20000 in
theorem ggL_law_X7_wipe : GoodIn wsL_law wsX7_wipe := goodIn_r _ [307, 299, 877, 878, 879, 880, 881, 882, 883, 884, 885, 886, 887, 888, 889, 890, 891, 892, 893, 894, 895, 896, 897, 898, 899, 900, 901, 902, 903, 904, 905, 906, 907, 908, 909, 910, 911, 912, 913, 914] (by decide +kernel) (by decide +kernel)
set_option maxRecDepth 20000 in
theorem gL_law_X7_wipe : GoodIn wsL_law (wsV RL 35 RX7 yX7_wipe wsX7_wipe) := goodIn_app (goodIn_of _ (by decide +kernel)) ggL_law_X7_wipe
set_option maxRecDepth 20000 in
theorem ggL_law_X6_check : GoodIn wsL_law wsX6_check := goodIn_r _ [311, 312, 313, 2, 314, 196, 197, 198, 199, 315, 316, 317, 318, 319, 320, 321] (by decide +kernel) (by decide +kernel)
set_option maxRecDepth 20000 in
theorem gL_law_X6_check : GoodIn wsL_law (wsV RL 36 RX6 yX6_check wsX6_check) := goodIn_app (goodIn_of _ (by decide +kernel)) ggL_law_X6_check
set_option maxRecDepth 20000 in
theorem ggL_law_X7_check : GoodIn wsL_law wsX7_check := goodIn_r _ [325, 326, 158, 327, 169, 170, 5, 171, 328, 329, 330] (by decide +kernel) (by decide +kernel)
set_option maxRecDepth 20000 in
theorem gL_law_X7_check : GoodIn wsL_law (wsV RL 40 RX7 yX7_check wsX7_check) := goodIn_app (goodIn_of _ (by decide +kernel)) ggL_law_X7_check
set_option maxRecDepth 20000 in
theorem ggL_law_X6_checkOf : GoodIn wsL_law wsX6_checkOf := goodIn_r _ [334, 196, 197, 198, 2, 199, 335, 336, 337, 319, 320, 321] (by decide +kernel) (by decide +kernel)
set_option maxRecDepth 20000 in
theorem gL_law_X6_checkOf : GoodIn wsL_law (wsV RL 41 RX6 yX6_checkOf wsX6_checkOf) := goodIn_app (goodIn_of _ (by decide +kernel)) ggL_law_X6_checkOf
set_option maxRecDepth 20000 in
theorem ggL_law_X7_checkOf : GoodIn wsL_law wsX7_checkOf := goodIn_r _ [341, 158, 169, 170, 5, 171, 328, 329, 330] (by decide +kernel) (by decide +kernel)
set_option maxRecDepth 20000 in
theorem gL_law_X7_checkOf : GoodIn wsL_law (wsV RL 44 RX7 yX7_checkOf wsX7_checkOf) := goodIn_app (goodIn_of _ (by decide +kernel)) ggL_law_X7_checkOf
set_option maxRecDepth 20000 in
theorem ggL_law_X6_send : GoodIn wsL_law wsX6_send := goodIn_r _ [345, 312, 313, 2, 314, 196, 197, 198, 199, 346, 347, 348, 349, 28, 205, 206, 207, 208, 97, 315, 316, 317, 318, 319, 320, 321, 350, 351, 352, 353, 99, 354, 355, 356, 357, 101, 358, 359, 360, 361, 362, 363, 364, 365, 366, 27, 367, 126, 368, 123, 124, 125, 127, 128, 369, 370, 371, 372, 74, 373, 374, 375, 376, 217, 218, 219, 220, 24, 15, 221, 222, 223, 23, 224, 113, 114, 225, 226, 227, 228, 57, 58, 229, 230, 231, 14, 232, 233, 234, 235, 236, 84, 80, 81, 51, 82, 83, 50, 52, 41, 87, 43, 237, 238, 239, 240, 86, 44, 241, 242, 243, 244, 120, 121, 245, 246, 247, 248, 119, 249, 250, 251, 252, 85, 209, 210, 211, 212, 20, 93, 94, 95, 96, 98, 100, 36, 32, 102, 103, 104, 35, 105, 106, 107, 108, 109, 110, 111, 112, 115, 116, 117, 118, 122, 129, 130, 131, 31, 132, 133, 134, 135, 136, 137, 213, 214, 215, 18, 216, 92, 377, 378, 379, 380, 72, 381, 382, 383, 384, 73, 385, 386, 387, 388, 389, 390, 391, 392, 393, 394, 395, 396, 397, 398, 399, 400, 401, 402, 403, 404, 405, 406, 407, 408, 409, 410, 411, 412, 413, 414, 415, 416, 417, 418, 419, 278, 420, 421, 422, 423, 424, 425, 426, 427, 428, 429, 430, 431, 432, 433, 434, 435, 436, 437, 438, 439, 440, 441, 442, 443, 444, 445, 446, 447, 448, 449, 450, 451, 452, 453, 454, 455, 456, 457, 458, 459, 460, 461, 462, 463, 464, 465, 466, 467, 468, 469, 470, 471, 472, 473, 474, 475, 476, 477, 478, 479, 480, 481, 482, 483, 484, 485, 486, 487, 488, 489, 490, 491, 492, 493, 494, 495, 496, 497, 498, 499, 500, 501, 502, 503, 504, 505, 506, 507, 508, 509, 510, 511, 512, 513, 514, 515, 516, 517, 518, 519, 520, 521, 522, 523, 524, 19, 525, 526, 527, 528, 529, 530, 531, 532, 53, 533, 534, 535, 536, 537, 538, 539, 540, 541, 89, 90, 91, 542, 290, 291, 292, 543, 544, 545, 546, 88, 547, 548, 549, 550, 551, 552, 553, 554, 555, 556, 557, 558, 860, 861, 862, 863, 864, 865, 866, 867, 868, 869, 870, 871, 872, 873, 874, 875, 876, 927, 928, 929, 930, 931, 932, 923, 924, 925, 926, 915, 916, 917, 918, 919, 920, 938, 939, 940, 933, 934, 935, 936, 937, 921, 922] (by decide +kernel) (by decide +kernel)
set_option maxRecDepth 20000 in
theorem gL_law_X6_send : GoodIn wsL_law (wsV RL 45 RX6 yX6_send wsX6_send) := goodIn_app (goodIn_of _ (by decide +kernel)) ggL_law_X6_send
set_option maxRecDepth 20000 in
theorem ggL_law_X7_send : GoodIn wsL_law wsX7_send := goodIn_r _ [562, 326, 158, 563, 168, 182, 181, 188, 169, 170, 5, 171, 564, 323, 324, 325, 327, 328, 329, 330, 565, 566, 567, 568, 176, 569, 570, 571, 572, 573, 574, 575, 576, 577, 187, 161, 162, 177, 179, 178, 257, 258, 259, 260, 183, 149, 147, 184, 185, 261, 262, 263, 264, 265, 143, 167, 144, 266, 267, 268, 269, 166, 146, 270, 271, 272, 273, 160, 159, 172, 173, 174, 175, 180, 165, 186, 189, 190, 191, 578, 579, 580, 581, 582, 583, 584, 585, 586, 587, 588, 589, 590, 591, 592, 593, 594, 595, 596, 597, 164, 598, 599, 600, 601, 284, 602, 603, 604, 605, 606, 607, 608, 609, 610, 611, 612, 613, 614, 615, 616, 617, 618, 619, 620, 621, 622, 623, 624, 625, 626, 627, 628, 629, 630, 631, 299, 142, 145, 632, 633, 634, 635, 636, 637, 638, 639, 877, 878, 879, 880, 881, 882, 883, 884, 885, 886, 887, 888, 889, 890, 891, 892, 893, 894, 895, 896, 897, 898, 899, 900, 901, 902, 903, 904, 905, 906, 907, 908, 909, 910, 911, 912, 913, 914] (by decide +kernel) (by decide +kernel)
set_option maxRecDepth 20000 in
theorem gL_law_X7_send : GoodIn wsL_law (wsV RL 49 RX7 yX7_send wsX7_send) := goodIn_app (goodIn_of _ (by decide +kernel)) ggL_law_X7_send
set_option maxRecDepth 20000 in
theorem ggL_law_X6_tell : GoodIn wsL_law wsX6_tell := goodIn_r _ [643, 312, 313, 2, 314, 196, 197, 198, 199, 315, 316, 317, 318, 319, 320, 321, 346, 347, 348, 349, 28, 205, 206, 207, 208, 97, 350, 351, 352, 353, 99, 354, 355, 356, 357, 101, 358, 359, 360, 361, 362, 363, 364, 365, 366, 27, 367, 126, 368, 123, 124, 125, 127, 128, 369, 370, 371, 372, 74, 373, 374, 375, 376, 217, 218, 219, 220, 24, 15, 221, 222, 223, 23, 224, 113, 114, 225, 226, 227, 228, 57, 58, 229, 230, 231, 14, 232, 233, 234, 235, 236, 84, 80, 81, 51, 82, 83, 50, 52, 41, 87, 43, 237, 238, 239, 240, 86, 44, 241, 242, 243, 244, 120, 121, 245, 246, 247, 248, 119, 249, 250, 251, 252, 85, 209, 210, 211, 212, 20, 93, 94, 95, 96, 98, 100, 36, 32, 102, 103, 104, 35, 105, 106, 107, 108, 109, 110, 111, 112, 115, 116, 117, 118, 122, 129, 130, 131, 31, 132, 133, 134, 135, 136, 137, 213, 214, 215, 18, 216, 92, 377, 378, 379, 380, 72, 381, 382, 383, 384, 73, 385, 386, 387, 388, 389, 390, 391, 392, 393, 394, 395, 396, 397, 398, 399, 400, 401, 402, 403, 404, 405, 406, 407, 408, 409, 410, 411, 412, 413, 414, 415, 416, 417, 418, 419, 278, 420, 421, 422, 423, 424, 425, 426, 427, 428, 429, 430, 431, 432, 433, 434, 435, 436, 437, 438, 439, 440, 441, 442, 443, 444, 445, 446, 447, 448, 449, 450, 451, 452, 453, 454, 455, 456, 457, 458, 459, 460, 461, 462, 463, 464, 465, 466, 467, 468, 469, 470, 471, 472, 473, 474, 475, 476, 477, 478, 479, 480, 481, 482, 483, 484, 485, 486, 487, 488, 489, 490, 491, 492, 493, 494, 495, 496, 497, 498, 499, 500, 501, 502, 503, 504, 505, 506, 507, 508, 509, 510, 511, 512, 513, 514, 515, 516, 517, 518, 519, 520, 521, 522, 523, 524, 19, 525, 526, 527, 528, 529, 530, 531, 532, 53, 533, 534, 535, 536, 537, 538, 539, 540, 541, 89, 90, 91, 542, 290, 291, 292, 543, 544, 545, 546, 88, 547, 548, 549, 550, 551, 552, 553, 554, 555, 556, 557, 558, 860, 861, 862, 863, 864, 865, 866, 867, 868, 869, 870, 871, 872, 873, 874, 875, 876, 927, 928, 929, 930, 931, 932, 923, 924, 925, 926, 915, 916, 917, 918, 919, 920, 938, 939, 940, 933, 934, 935, 936, 937, 921, 922] (by decide +kernel) (by decide +kernel)
set_option maxRecDepth 20000 in
theorem gL_law_X6_tell : GoodIn wsL_law (wsV RL 50 RX6 yX6_tell wsX6_tell) := goodIn_app (goodIn_of _ (by decide +kernel)) ggL_law_X6_tell
set_option maxRecDepth 20000 in
theorem ggL_law_X7_tell : GoodIn wsL_law wsX7_tell := goodIn_r _ [647, 326, 158, 169, 170, 5, 171, 564, 323, 324, 325, 327, 328, 329, 330, 648, 560, 561, 562, 563, 168, 182, 181, 188, 565, 566, 567, 568, 176, 569, 570, 571, 572, 573, 574, 575, 576, 577, 187, 161, 162, 177, 179, 178, 257, 258, 259, 260, 183, 149, 147, 184, 185, 261, 262, 263, 264, 265, 143, 167, 144, 266, 267, 268, 269, 166, 146, 270, 271, 272, 273, 160, 159, 172, 173, 174, 175, 180, 165, 186, 189, 190, 191, 578, 579, 580, 581, 582, 583, 584, 585, 586, 587, 588, 589, 590, 591, 592, 593, 594, 595, 596, 597, 164, 598, 599, 600, 601, 284, 602, 603, 604, 605, 606, 607, 608, 609, 610, 611, 612, 613, 614, 615, 616, 617, 618, 619, 620, 621, 622, 623, 624, 625, 626, 627, 628, 629, 630, 631, 299, 142, 145, 632, 633, 634, 635, 636, 637, 638, 639, 877, 878, 879, 880, 881, 882, 883, 884, 885, 886, 887, 888, 889, 890, 891, 892, 893, 894, 895, 896, 897, 898, 899, 900, 901, 902, 903, 904, 905, 906, 907, 908, 909, 910, 911, 912, 913, 914] (by decide +kernel) (by decide +kernel)
set_option maxRecDepth 20000 in
theorem gL_law_X7_tell : GoodIn wsL_law (wsV RL 53 RX7 yX7_tell wsX7_tell) := goodIn_app (goodIn_of _ (by decide +kernel)) ggL_law_X7_tell
set_option maxRecDepth 20000 in
theorem ggL_law_X6_give : GoodIn wsL_law wsX6_give := goodIn_r _ [652, 196, 97, 32, 15, 24, 36, 278, 197, 198, 2, 199, 653, 654, 655, 31, 656, 137, 657, 658, 659, 660, 136, 135, 661, 662, 663, 664, 134, 445, 446, 447, 14, 448, 84, 449, 450, 451, 452, 350, 351, 352, 353, 99, 665, 666, 667, 23, 668, 113, 424, 425, 426, 35, 427, 107, 108, 428, 81, 51, 82, 429, 430, 431, 432, 335, 336, 337, 319, 320, 321, 669, 670, 671, 672, 673, 674, 675, 676, 57, 58, 677, 678, 679, 680, 860, 861, 862, 863, 864, 865, 866, 867, 868, 869, 870, 871, 872, 873, 874, 875, 876, 933, 934, 935, 936, 937, 915, 916, 917, 918, 919, 920, 923, 924, 925, 926, 938, 939, 940] (by decide +kernel) (by decide +kernel)
set_option maxRecDepth 20000 in
theorem gL_law_X6_give : GoodIn wsL_law (wsV RL 54 RX6 yX6_give wsX6_give) := goodIn_app (goodIn_of _ (by decide +kernel)) ggL_law_X6_give
set_option maxRecDepth 20000 in
theorem ggL_law_X7_give : GoodIn wsL_law wsX7_give := goodIn_r _ [684, 158, 563, 168, 176, 191, 190, 189, 159, 183, 182, 147, 148, 149, 169, 170, 5, 171, 606, 607, 608, 609, 598, 599, 600, 601, 180, 179, 284, 685, 339, 340, 341, 328, 329, 330, 877, 878, 879, 880, 881, 882, 883, 884, 885, 886, 887, 888, 889, 890, 891, 892, 893, 894, 895, 896, 897, 898, 899, 900, 901, 902, 903, 904, 905, 906, 907, 908, 909, 910, 911, 912, 913, 914] (by decide +kernel) (by decide +kernel)
set_option maxRecDepth 20000 in
theorem gL_law_X7_give : GoodIn wsL_law (wsV RL 57 RX7 yX7_give wsX7_give) := goodIn_app (goodIn_of _ (by decide +kernel)) ggL_law_X7_give
set_option maxRecDepth 20000 in
theorem ggL_law_X6_get : GoodIn wsL_law wsX6_get := goodIn_r _ [689, 97, 32, 36, 278, 15, 661, 662, 663, 31, 664, 134, 424, 425, 426, 35, 427, 107, 108, 428, 81, 51, 82, 429, 430, 431, 432, 690, 691, 692, 14, 693, 43, 694, 446, 447, 448, 84, 677, 678, 679, 680, 135, 657, 658, 659, 660, 136, 445, 695, 696, 697, 698, 41, 87, 860, 861, 862, 863, 864, 865, 866, 867, 868, 869, 870, 871, 872, 873, 874, 875, 876, 933, 934, 935, 936, 937, 938, 939, 940, 915, 916, 917, 918, 919, 920] (by decide +kernel) (by decide +kernel)
set_option maxRecDepth 20000 in
theorem gL_law_X6_get : GoodIn wsL_law (wsV RL 58 RX6 yX6_get wsX6_get) := goodIn_app (goodIn_of _ (by decide +kernel)) ggL_law_X6_get
set_option maxRecDepth 20000 in
theorem ggL_law_X7_get : GoodIn wsL_law wsX7_get := goodIn_r _ [702, 168, 176, 144, 189, 143, 190, 159, 598, 599, 600, 5, 601, 180, 179, 284, 877, 878, 879, 880, 881, 882, 883, 884, 885, 886, 887, 888, 889, 890, 891, 892, 893, 894, 895, 896, 897, 898, 899, 900, 901, 902, 903, 904, 905, 906, 907, 908, 909, 910, 911, 912, 913, 914] (by decide +kernel) (by decide +kernel)
set_option maxRecDepth 20000 in
theorem gL_law_X7_get : GoodIn wsL_law (wsV RL 61 RX7 yX7_get wsX7_get) := goodIn_app (goodIn_of _ (by decide +kernel)) ggL_law_X7_get
set_option maxRecDepth 20000 in
theorem ggL_law_X6_tick : GoodIn wsL_law wsX6_tick := goodIn_r _ [706, 75, 197, 198, 2, 199, 707, 708, 709, 710, 97, 24, 28, 461, 462, 463, 23, 464, 113, 711, 712, 713, 714, 36, 15, 74, 715, 716, 717, 718, 114, 225, 226, 227, 228, 57, 58, 719, 720, 721, 35, 722, 106, 723, 724, 725, 14, 726, 41, 43, 694, 446, 447, 448, 84, 237, 238, 239, 240, 86, 44, 727, 728, 729, 730, 731, 732, 733, 734, 735, 50, 51, 52, 509, 510, 511, 27, 512, 120, 736, 737, 738, 739, 245, 246, 247, 248, 119, 740, 741, 742, 743, 121, 744, 745, 746, 747, 85, 233, 234, 235, 236, 80, 81, 82, 83, 87, 860, 861, 862, 863, 864, 865, 866, 867, 868, 869, 870, 871, 872, 873, 874, 875, 876, 923, 924, 925, 926, 938, 939, 940, 915, 916, 917, 918, 919, 920, 927, 928, 929, 930, 931, 932] (by decide +kernel) (by decide +kernel)
set_option maxRecDepth 20000 in
theorem gL_law_X6_tick : GoodIn wsL_law (wsV RL 62 RX6 yX6_tick wsX6_tick) := goodIn_app (goodIn_of _ (by decide +kernel)) ggL_law_X6_tick
set_option maxRecDepth 20000 in
theorem ggL_law_X7_tick : GoodIn wsL_law wsX7_tick := goodIn_r _ [751, 752, 163, 169, 170, 5, 171, 753, 754, 755, 756, 168, 176, 183, 184, 185, 261, 757, 758, 759, 760, 149, 178, 147, 143, 148, 144, 166, 146, 164, 266, 267, 268, 269, 270, 271, 272, 273, 160, 159, 262, 263, 264, 265, 167, 877, 878, 879, 880, 881, 882, 883, 884, 885, 886, 887, 888, 889, 890, 891, 892, 893, 894, 895, 896, 897, 898, 899, 900, 901, 902, 903, 904, 905, 906, 907, 908, 909, 910, 911, 912, 913, 914] (by decide +kernel) (by decide +kernel)
set_option maxRecDepth 20000 in
theorem gL_law_X7_tick : GoodIn wsL_law (wsV RL 65 RX7 yX7_tick wsX7_tick) := goodIn_app (goodIn_of _ (by decide +kernel)) ggL_law_X7_tick
set_option maxRecDepth 20000 in
theorem ggL_law_X6_tune : GoodIn wsL_law wsX6_tune := goodIn_r _ [764, 315, 316, 2, 317, 318, 319, 320, 321, 346, 347, 348, 349, 28, 205, 206, 207, 208, 97, 350, 351, 352, 353, 99, 354, 355, 356, 357, 101, 358, 359, 360, 361, 362, 363, 364, 365, 366, 27, 367, 126, 368, 123, 124, 125, 127, 128, 369, 370, 371, 372, 74, 373, 374, 375, 376, 217, 218, 219, 220, 24, 15, 221, 222, 223, 23, 224, 113, 114, 225, 226, 227, 228, 57, 58, 229, 230, 231, 14, 232, 233, 234, 235, 236, 84, 80, 81, 51, 82, 83, 50, 52, 41, 87, 43, 237, 238, 239, 240, 86, 44, 241, 242, 243, 244, 120, 121, 245, 246, 247, 248, 119, 249, 250, 251, 252, 85, 209, 210, 211, 212, 20, 93, 94, 95, 96, 98, 100, 36, 32, 102, 103, 104, 35, 105, 106, 107, 108, 109, 110, 111, 112, 115, 116, 117, 118, 122, 129, 130, 131, 31, 132, 133, 134, 135, 136, 137, 213, 214, 215, 18, 216, 92, 377, 378, 379, 380, 72, 381, 382, 383, 384, 73, 385, 386, 387, 388, 389, 390, 391, 392, 393, 394, 395, 396, 397, 398, 399, 400, 401, 402, 403, 404, 405, 406, 407, 408, 409, 410, 411, 412, 413, 414, 415, 416, 417, 418, 419, 278, 420, 421, 422, 423, 424, 425, 426, 427, 428, 429, 430, 431, 432, 433, 434, 435, 436, 437, 438, 439, 440, 441, 442, 443, 444, 445, 446, 447, 448, 449, 450, 451, 452, 453, 454, 455, 456, 457, 458, 459, 460, 461, 462, 463, 464, 465, 466, 467, 468, 469, 470, 471, 472, 473, 474, 475, 476, 477, 478, 479, 480, 481, 482, 483, 484, 485, 486, 487, 488, 489, 490, 491, 492, 493, 494, 495, 496, 497, 498, 499, 500, 501, 502, 503, 504, 505, 506, 507, 508, 509, 510, 511, 512, 513, 514, 515, 516, 517, 518, 519, 520, 521, 522, 523, 524, 19, 525, 526, 527, 528, 529, 530, 531, 532, 53, 533, 534, 535, 536, 197, 198, 199, 537, 538, 539, 540, 541, 89, 90, 91, 542, 290, 291, 292, 543, 544, 545, 546, 88, 547, 548, 549, 550, 551, 552, 553, 554, 555, 556, 557, 558, 765, 766, 767, 768, 769, 770, 860, 861, 862, 863, 864, 865, 866, 867, 868, 869, 870, 871, 872, 873, 874, 875, 876, 927, 928, 929, 930, 931, 932, 923, 924, 925, 926, 915, 916, 917, 918, 919, 920, 938, 939, 940, 933, 934, 935, 936, 937, 921, 922] (by decide +kernel) (by decide +kernel)
set_option maxRecDepth 20000 in
theorem gL_law_X6_tune : GoodIn wsL_law (wsV RL 66 RX6 yX6_tune wsX6_tune) := goodIn_app (goodIn_of _ (by decide +kernel)) ggL_law_X6_tune
set_option maxRecDepth 20000 in
theorem ggL_law_X7_tune : GoodIn wsL_law wsX7_tune := goodIn_r _ [774, 775, 645, 646, 5, 647, 326, 158, 169, 170, 171, 564, 323, 324, 325, 327, 328, 329, 330, 648, 560, 561, 562, 563, 168, 182, 181, 188, 565, 566, 567, 568, 176, 569, 570, 571, 572, 573, 574, 575, 576, 577, 187, 161, 162, 177, 179, 178, 257, 258, 259, 260, 183, 149, 147, 184, 185, 261, 262, 263, 264, 265, 143, 167, 144, 266, 267, 268, 269, 166, 146, 270, 271, 272, 273, 160, 159, 172, 173, 174, 175, 180, 165, 186, 189, 190, 191, 578, 579, 580, 581, 582, 583, 584, 585, 586, 587, 588, 589, 590, 591, 592, 593, 594, 595, 596, 597, 164, 598, 599, 600, 601, 284, 602, 603, 604, 605, 606, 607, 608, 609, 610, 611, 612, 613, 614, 615, 616, 617, 618, 619, 620, 621, 622, 623, 624, 625, 626, 627, 628, 629, 630, 631, 299, 142, 145, 632, 633, 634, 635, 636, 637, 638, 639, 877, 878, 879, 880, 881, 882, 883, 884, 885, 886, 887, 888, 889, 890, 891, 892, 893, 894, 895, 896, 897, 898, 899, 900, 901, 902, 903, 904, 905, 906, 907, 908, 909, 910, 911, 912, 913, 914] (by decide +kernel) (by decide +kernel)
set_option maxRecDepth 20000 in
theorem gL_law_X7_tune : GoodIn wsL_law (wsV RL 69 RX7 yX7_tune wsX7_tune) := goodIn_app (goodIn_of _ (by decide +kernel)) ggL_law_X7_tune
set_option maxRecDepth 20000 in
theorem ggL_law_X6_block : GoodIn wsL_law wsX6_block := goodIn_r _ [779, 15, 445, 446, 447, 14, 448, 84, 197, 198, 2, 199, 695, 696, 697, 698, 41, 87, 694, 690, 691, 692, 693, 43, 397, 398, 399, 493, 494, 495, 496, 85, 860, 861, 862, 863, 864, 865, 866, 867, 868, 869, 870, 871, 872, 873, 874, 875, 876, 915, 916, 917, 918, 919, 920] (by decide +kernel) (by decide +kernel)
set_option maxRecDepth 20000 in
theorem gL_law_X6_block : GoodIn wsL_law (wsV RL 70 RX6 yX6_block wsX6_block) := goodIn_app (goodIn_of _ (by decide +kernel)) ggL_law_X6_block
set_option maxRecDepth 20000 in
theorem ggL_law_X7_block : GoodIn wsL_law wsX7_block := goodIn_r _ [783, 159, 784, 143, 144, 160, 169, 170, 5, 171, 877, 878, 879, 880, 881, 882, 883, 884, 885, 886, 887, 888, 889, 890, 891, 892, 893, 894, 895, 896, 897, 898, 899, 900, 901, 902, 903, 904, 905, 906, 907, 908, 909, 910, 911, 912, 913, 914] (by decide +kernel) (by decide +kernel)
set_option maxRecDepth 20000 in
theorem gL_law_X7_block : GoodIn wsL_law (wsV RL 73 RX7 yX7_block wsX7_block) := goodIn_app (goodIn_of _ (by decide +kernel)) ggL_law_X7_block
set_option maxRecDepth 20000 in
theorem ggL_law_X6_latest : GoodIn wsL_law wsX6_latest := goodIn_r _ [788, 15, 789, 790, 791, 14, 792, 86, 44, 860, 861, 862, 863, 864, 865, 866, 867, 868, 869, 870, 871, 872, 873, 874, 875, 876, 915, 916, 917, 918, 919, 920] (by decide +kernel) (by decide +kernel)
set_option maxRecDepth 20000 in
theorem gL_law_X6_latest : GoodIn wsL_law (wsV RL 74 RX6 yX6_latest wsX6_latest) := goodIn_app (goodIn_of _ (by decide +kernel)) ggL_law_X6_latest
set_option maxRecDepth 20000 in
theorem ggL_law_X7_latest : GoodIn wsL_law wsX7_latest := goodIn_r _ [796, 166, 146, 877, 878, 879, 880, 881, 882, 883, 884, 885, 886, 887, 888, 889, 890, 891, 892, 893, 894, 895, 896, 897, 898, 899, 900, 901, 902, 903, 904, 905, 906, 907, 908, 909, 910, 911, 912, 913, 914] (by decide +kernel) (by decide +kernel)
set_option maxRecDepth 20000 in
theorem gL_law_X7_latest : GoodIn wsL_law (wsV RL 77 RX7 yX7_latest wsX7_latest) := goodIn_app (goodIn_of _ (by decide +kernel)) ggL_law_X7_latest
set_option maxRecDepth 20000 in
theorem ggL_law_X6_word : GoodIn wsL_law wsX6_word := goodIn_r _ [800, 20, 213, 214, 215, 18, 216, 92, 801, 530, 531, 532, 53, 860, 861, 862, 863, 864, 865, 866, 867, 868, 869, 870, 871, 872, 873, 874, 875, 876, 921, 922] (by decide +kernel) (by decide +kernel)
set_option maxRecDepth 20000 in
theorem gL_law_X6_word : GoodIn wsL_law (wsV RL 78 RX6 yX6_word wsX6_word) := goodIn_app (goodIn_of _ (by decide +kernel)) ggL_law_X6_word
set_option maxRecDepth 20000 in
theorem ggL_law_X7_word : GoodIn wsL_law wsX7_word := goodIn_r _ [805, 165, 145, 877, 878, 879, 880, 881, 882, 883, 884, 885, 886, 887, 888, 889, 890, 891, 892, 893, 894, 895, 896, 897, 898, 899, 900, 901, 902, 903, 904, 905, 906, 907, 908, 909, 910, 911, 912, 913, 914] (by decide +kernel) (by decide +kernel)
set_option maxRecDepth 20000 in
theorem gL_law_X7_word : GoodIn wsL_law (wsV RL 81 RX7 yX7_word wsX7_word) := goodIn_app (goodIn_of _ (by decide +kernel)) ggL_law_X7_word
set_option maxRecDepth 20000 in
theorem ggL_law_X6_later : GoodIn wsL_law wsX6_later := goodIn_r _ [809, 24, 197, 198, 2, 199, 461, 462, 463, 23, 464, 113, 225, 226, 227, 228, 57, 58, 114, 860, 861, 862, 863, 864, 865, 866, 867, 868, 869, 870, 871, 872, 873, 874, 875, 876, 923, 924, 925, 926] (by decide +kernel) (by decide +kernel)
set_option maxRecDepth 20000 in
theorem gL_law_X6_later : GoodIn wsL_law (wsV RL 82 RX6 yX6_later wsX6_later) := goodIn_app (goodIn_of _ (by decide +kernel)) ggL_law_X6_later
set_option maxRecDepth 20000 in
theorem ggL_law_X7_later : GoodIn wsL_law wsX7_later := goodIn_r _ [813, 784, 183, 147, 148, 149, 169, 170, 5, 171, 877, 878, 879, 880, 881, 882, 883, 884, 885, 886, 887, 888, 889, 890, 891, 892, 893, 894, 895, 896, 897, 898, 899, 900, 901, 902, 903, 904, 905, 906, 907, 908, 909, 910, 911, 912, 913, 914] (by decide +kernel) (by decide +kernel)
set_option maxRecDepth 20000 in
theorem gL_law_X7_later : GoodIn wsL_law (wsV RL 85 RX7 yX7_later wsX7_later) := goodIn_app (goodIn_of _ (by decide +kernel)) ggL_law_X7_later
set_option maxRecDepth 20000 in
theorem ggL_law_X6_count : GoodIn wsL_law wsX6_count := goodIn_r _ [817, 15, 97, 98, 36, 101, 99, 74, 28, 75, 278, 19, 32, 555, 556, 557, 14, 558, 84, 818, 819, 820, 821, 85, 205, 206, 207, 2, 208, 412, 413, 414, 35, 415, 106, 408, 409, 410, 411, 107, 822, 823, 824, 825, 108, 397, 398, 399, 509, 510, 511, 27, 512, 120, 826, 827, 828, 829, 830, 691, 692, 693, 43, 694, 446, 447, 448, 213, 214, 215, 18, 216, 92, 831, 832, 833, 834, 661, 662, 663, 31, 664, 134, 445, 835, 836, 837, 838, 136, 839, 840, 841, 842, 135, 843, 844, 845, 846, 87, 847, 696, 697, 698, 41, 424, 425, 426, 427, 428, 81, 51, 82, 429, 430, 431, 432, 860, 861, 862, 863, 864, 865, 866, 867, 868, 869, 870, 871, 872, 873, 874, 875, 876, 915, 916, 917, 918, 919, 920, 938, 939, 940, 927, 928, 929, 930, 931, 932, 921, 922, 933, 934, 935, 936, 937] (by decide +kernel) (by decide +kernel)
set_option maxRecDepth 20000 in
theorem gL_law_X6_count : GoodIn wsL_law (wsV RL 86 RX6 yX6_count wsX6_count) := goodIn_app (goodIn_of _ (by decide +kernel)) ggL_law_X6_count
set_option maxRecDepth 20000 in
theorem ggL_law_X7_count : GoodIn wsL_law wsX7_count := goodIn_r _ [851, 168, 176, 159, 160, 164, 163, 284, 299, 189, 190, 852, 853, 854, 5, 855, 177, 178, 179, 180, 181, 182, 184, 856, 857, 858, 859, 144, 143, 167, 598, 599, 600, 601, 877, 878, 879, 880, 881, 882, 883, 884, 885, 886, 887, 888, 889, 890, 891, 892, 893, 894, 895, 896, 897, 898, 899, 900, 901, 902, 903, 904, 905, 906, 907, 908, 909, 910, 911, 912, 913, 914] (by decide +kernel) (by decide +kernel)
set_option maxRecDepth 20000 in
theorem gL_law_X7_count : GoodIn wsL_law (wsV RL 89 RX7 yX7_count wsX7_count) := goodIn_app (goodIn_of _ (by decide +kernel)) ggL_law_X7_count
theorem dL_law_0 : decode cL_law 0 = .ok (.new 7, 3) := by decide +kernel
theorem dL_law_3 : decode cL_law 3 = .ok (.dup, 1) := by decide +kernel
theorem dL_law_4 : decode cL_law 4 = .ok (.invokespecial 9, 3) := by decide +kernel
theorem dL_law_7 : decode cL_law 7 = .ok (.astore_n 1, 1) := by decide +kernel
theorem dL_law_8 : decode cL_law 8 = .ok (.new 10, 3) := by decide +kernel
theorem dL_law_11 : decode cL_law 11 = .ok (.dup, 1) := by decide +kernel
theorem dL_law_12 : decode cL_law 12 = .ok (.invokespecial 12, 3) := by decide +kernel
theorem dL_law_15 : decode cL_law 15 = .ok (.astore_n 2, 1) := by decide +kernel
theorem dL_law_16 : decode cL_law 16 = .ok (.iconst 0, 1) := by decide +kernel
theorem dL_law_17 : decode cL_law 17 = .ok (.istore_n 3, 1) := by decide +kernel
theorem dL_law_18 : decode cL_law 18 = .ok (.iload_n 3, 1) := by decide +kernel
theorem dL_law_19 : decode cL_law 19 = .ok (.aload_n 0, 1) := by decide +kernel
theorem dL_law_20 : decode cL_law 20 = .ok (.arraylength, 1) := by decide +kernel
theorem dL_law_21 : decode cL_law 21 = .ok (.iconst 5, 1) := by decide +kernel
theorem dL_law_22 : decode cL_law 22 = .ok (.isub, 1) := by decide +kernel
theorem dL_law_23 : decode cL_law 23 = .ok (.if_icmp .gt 587, 3) := by decide +kernel
theorem dL_law_26 : decode cL_law 26 = .ok (.aload_n 0, 1) := by decide +kernel
theorem dL_law_27 : decode cL_law 27 = .ok (.iload_n 3, 1) := by decide +kernel
theorem dL_law_28 : decode cL_law 28 = .ok (.iaload, 1) := by decide +kernel
theorem dL_law_29 : decode cL_law 29 = .ok (.bipush 31, 2) := by decide +kernel
theorem dL_law_31 : decode cL_law 31 = .ok (.iand, 1) := by decide +kernel
theorem dL_law_32 : decode cL_law 32 = .ok (.tableswitch 572 0 17 #[88, 141, 164, 187, 210, 223, 256, 279, 322, 355, 388, 401, 424, 437, 470, 493, 516, 549], 88) := by decide +kernel
theorem dL_law_120 : decode cL_law 120 = .ok (.aload_n 1, 1) := by decide +kernel
theorem dL_law_121 : decode cL_law 121 = .ok (.aload_n 0, 1) := by decide +kernel
theorem dL_law_122 : decode cL_law 122 = .ok (.iload_n 3, 1) := by decide +kernel
theorem dL_law_123 : decode cL_law 123 = .ok (.iconst 1, 1) := by decide +kernel
theorem dL_law_124 : decode cL_law 124 = .ok (.iadd, 1) := by decide +kernel
theorem dL_law_125 : decode cL_law 125 = .ok (.iaload, 1) := by decide +kernel
theorem dL_law_126 : decode cL_law 126 = .ok (.aload_n 0, 1) := by decide +kernel
theorem dL_law_127 : decode cL_law 127 = .ok (.iload_n 3, 1) := by decide +kernel
theorem dL_law_128 : decode cL_law 128 = .ok (.iconst 2, 1) := by decide +kernel
theorem dL_law_129 : decode cL_law 129 = .ok (.iadd, 1) := by decide +kernel
theorem dL_law_130 : decode cL_law 130 = .ok (.iaload, 1) := by decide +kernel
theorem dL_law_131 : decode cL_law 131 = .ok (.aload_n 0, 1) := by decide +kernel
theorem dL_law_132 : decode cL_law 132 = .ok (.iload_n 3, 1) := by decide +kernel
theorem dL_law_133 : decode cL_law 133 = .ok (.iconst 3, 1) := by decide +kernel
theorem dL_law_134 : decode cL_law 134 = .ok (.iadd, 1) := by decide +kernel
theorem dL_law_135 : decode cL_law 135 = .ok (.iaload, 1) := by decide +kernel
theorem dL_law_136 : decode cL_law 136 = .ok (.aload_n 0, 1) := by decide +kernel
theorem dL_law_137 : decode cL_law 137 = .ok (.iload_n 3, 1) := by decide +kernel
theorem dL_law_138 : decode cL_law 138 = .ok (.iconst 4, 1) := by decide +kernel
theorem dL_law_139 : decode cL_law 139 = .ok (.iadd, 1) := by decide +kernel
theorem dL_law_140 : decode cL_law 140 = .ok (.iaload, 1) := by decide +kernel
theorem dL_law_141 : decode cL_law 141 = .ok (.invokevirtual 13, 3) := by decide +kernel
theorem dL_law_144 : decode cL_law 144 = .ok (.aload_n 2, 1) := by decide +kernel
theorem dL_law_145 : decode cL_law 145 = .ok (.aload_n 0, 1) := by decide +kernel
theorem dL_law_146 : decode cL_law 146 = .ok (.iload_n 3, 1) := by decide +kernel
theorem dL_law_147 : decode cL_law 147 = .ok (.iconst 1, 1) := by decide +kernel
theorem dL_law_148 : decode cL_law 148 = .ok (.iadd, 1) := by decide +kernel
theorem dL_law_149 : decode cL_law 149 = .ok (.iaload, 1) := by decide +kernel
theorem dL_law_150 : decode cL_law 150 = .ok (.aload_n 0, 1) := by decide +kernel
theorem dL_law_151 : decode cL_law 151 = .ok (.iload_n 3, 1) := by decide +kernel
theorem dL_law_152 : decode cL_law 152 = .ok (.iconst 2, 1) := by decide +kernel
theorem dL_law_153 : decode cL_law 153 = .ok (.iadd, 1) := by decide +kernel
theorem dL_law_154 : decode cL_law 154 = .ok (.iaload, 1) := by decide +kernel
theorem dL_law_155 : decode cL_law 155 = .ok (.aload_n 0, 1) := by decide +kernel
theorem dL_law_156 : decode cL_law 156 = .ok (.iload_n 3, 1) := by decide +kernel
theorem dL_law_157 : decode cL_law 157 = .ok (.iconst 3, 1) := by decide +kernel
theorem dL_law_158 : decode cL_law 158 = .ok (.iadd, 1) := by decide +kernel
theorem dL_law_159 : decode cL_law 159 = .ok (.iaload, 1) := by decide +kernel
theorem dL_law_160 : decode cL_law 160 = .ok (.aload_n 0, 1) := by decide +kernel
theorem dL_law_161 : decode cL_law 161 = .ok (.iload_n 3, 1) := by decide +kernel
theorem dL_law_162 : decode cL_law 162 = .ok (.iconst 4, 1) := by decide +kernel
theorem dL_law_163 : decode cL_law 163 = .ok (.iadd, 1) := by decide +kernel
theorem dL_law_164 : decode cL_law 164 = .ok (.iaload, 1) := by decide +kernel
theorem dL_law_165 : decode cL_law 165 = .ok (.invokevirtual 17, 3) := by decide +kernel
theorem dL_law_168 : decode cL_law 168 = .ok (.if_icmp .eq 436, 3) := by decide +kernel
theorem dL_law_171 : decode cL_law 171 = .ok (.iconst 0, 1) := by decide +kernel
theorem dL_law_172 : decode cL_law 172 = .ok (.ireturn, 1) := by decide +kernel
theorem dL_law_173 : decode cL_law 173 = .ok (.aload_n 1, 1) := by decide +kernel
theorem dL_law_174 : decode cL_law 174 = .ok (.aload_n 0, 1) := by decide +kernel
theorem dL_law_175 : decode cL_law 175 = .ok (.iload_n 3, 1) := by decide +kernel
theorem dL_law_176 : decode cL_law 176 = .ok (.iconst 1, 1) := by decide +kernel
theorem dL_law_177 : decode cL_law 177 = .ok (.iadd, 1) := by decide +kernel
theorem dL_law_178 : decode cL_law 178 = .ok (.iaload, 1) := by decide +kernel
theorem dL_law_179 : decode cL_law 179 = .ok (.invokevirtual 18, 3) := by decide +kernel
theorem dL_law_182 : decode cL_law 182 = .ok (.aload_n 2, 1) := by decide +kernel
theorem dL_law_183 : decode cL_law 183 = .ok (.aload_n 0, 1) := by decide +kernel
theorem dL_law_184 : decode cL_law 184 = .ok (.iload_n 3, 1) := by decide +kernel
theorem dL_law_185 : decode cL_law 185 = .ok (.iconst 1, 1) := by decide +kernel
theorem dL_law_186 : decode cL_law 186 = .ok (.iadd, 1) := by decide +kernel
theorem dL_law_187 : decode cL_law 187 = .ok (.iaload, 1) := by decide +kernel
theorem dL_law_188 : decode cL_law 188 = .ok (.invokevirtual 22, 3) := by decide +kernel
theorem dL_law_191 : decode cL_law 191 = .ok (.if_icmp .eq 413, 3) := by decide +kernel
theorem dL_law_194 : decode cL_law 194 = .ok (.iconst 0, 1) := by decide +kernel
theorem dL_law_195 : decode cL_law 195 = .ok (.ireturn, 1) := by decide +kernel
theorem dL_law_196 : decode cL_law 196 = .ok (.aload_n 1, 1) := by decide +kernel
theorem dL_law_197 : decode cL_law 197 = .ok (.aload_n 0, 1) := by decide +kernel
theorem dL_law_198 : decode cL_law 198 = .ok (.iload_n 3, 1) := by decide +kernel
theorem dL_law_199 : decode cL_law 199 = .ok (.iconst 1, 1) := by decide +kernel
theorem dL_law_200 : decode cL_law 200 = .ok (.iadd, 1) := by decide +kernel
theorem dL_law_201 : decode cL_law 201 = .ok (.iaload, 1) := by decide +kernel
theorem dL_law_202 : decode cL_law 202 = .ok (.invokevirtual 23, 3) := by decide +kernel
theorem dL_law_205 : decode cL_law 205 = .ok (.aload_n 2, 1) := by decide +kernel
theorem dL_law_206 : decode cL_law 206 = .ok (.aload_n 0, 1) := by decide +kernel
theorem dL_law_207 : decode cL_law 207 = .ok (.iload_n 3, 1) := by decide +kernel
theorem dL_law_208 : decode cL_law 208 = .ok (.iconst 1, 1) := by decide +kernel
theorem dL_law_209 : decode cL_law 209 = .ok (.iadd, 1) := by decide +kernel
theorem dL_law_210 : decode cL_law 210 = .ok (.iaload, 1) := by decide +kernel
theorem dL_law_211 : decode cL_law 211 = .ok (.invokevirtual 26, 3) := by decide +kernel
theorem dL_law_214 : decode cL_law 214 = .ok (.if_icmp .eq 390, 3) := by decide +kernel
theorem dL_law_217 : decode cL_law 217 = .ok (.iconst 0, 1) := by decide +kernel
theorem dL_law_218 : decode cL_law 218 = .ok (.ireturn, 1) := by decide +kernel
theorem dL_law_219 : decode cL_law 219 = .ok (.aload_n 1, 1) := by decide +kernel
theorem dL_law_220 : decode cL_law 220 = .ok (.aload_n 0, 1) := by decide +kernel
theorem dL_law_221 : decode cL_law 221 = .ok (.iload_n 3, 1) := by decide +kernel
theorem dL_law_222 : decode cL_law 222 = .ok (.iconst 1, 1) := by decide +kernel
theorem dL_law_223 : decode cL_law 223 = .ok (.iadd, 1) := by decide +kernel
theorem dL_law_224 : decode cL_law 224 = .ok (.iaload, 1) := by decide +kernel
theorem dL_law_225 : decode cL_law 225 = .ok (.invokevirtual 27, 3) := by decide +kernel
theorem dL_law_228 : decode cL_law 228 = .ok (.aload_n 2, 1) := by decide +kernel
theorem dL_law_229 : decode cL_law 229 = .ok (.aload_n 0, 1) := by decide +kernel
theorem dL_law_230 : decode cL_law 230 = .ok (.iload_n 3, 1) := by decide +kernel
theorem dL_law_231 : decode cL_law 231 = .ok (.iconst 1, 1) := by decide +kernel
theorem dL_law_232 : decode cL_law 232 = .ok (.iadd, 1) := by decide +kernel
theorem dL_law_233 : decode cL_law 233 = .ok (.iaload, 1) := by decide +kernel
theorem dL_law_234 : decode cL_law 234 = .ok (.invokevirtual 30, 3) := by decide +kernel
theorem dL_law_237 : decode cL_law 237 = .ok (.if_icmp .eq 367, 3) := by decide +kernel
theorem dL_law_240 : decode cL_law 240 = .ok (.iconst 0, 1) := by decide +kernel
theorem dL_law_241 : decode cL_law 241 = .ok (.ireturn, 1) := by decide +kernel
theorem dL_law_242 : decode cL_law 242 = .ok (.aload_n 1, 1) := by decide +kernel
theorem dL_law_243 : decode cL_law 243 = .ok (.invokevirtual 31, 3) := by decide +kernel
theorem dL_law_246 : decode cL_law 246 = .ok (.aload_n 2, 1) := by decide +kernel
theorem dL_law_247 : decode cL_law 247 = .ok (.invokevirtual 35, 3) := by decide +kernel
theorem dL_law_250 : decode cL_law 250 = .ok (.if_icmp .eq 354, 3) := by decide +kernel
theorem dL_law_253 : decode cL_law 253 = .ok (.iconst 0, 1) := by decide +kernel
theorem dL_law_254 : decode cL_law 254 = .ok (.ireturn, 1) := by decide +kernel
theorem dL_law_255 : decode cL_law 255 = .ok (.aload_n 1, 1) := by decide +kernel
theorem dL_law_256 : decode cL_law 256 = .ok (.aload_n 0, 1) := by decide +kernel
theorem dL_law_257 : decode cL_law 257 = .ok (.iload_n 3, 1) := by decide +kernel
theorem dL_law_258 : decode cL_law 258 = .ok (.iconst 1, 1) := by decide +kernel
theorem dL_law_259 : decode cL_law 259 = .ok (.iadd, 1) := by decide +kernel
theorem dL_law_260 : decode cL_law 260 = .ok (.iaload, 1) := by decide +kernel
theorem dL_law_261 : decode cL_law 261 = .ok (.aload_n 0, 1) := by decide +kernel
theorem dL_law_262 : decode cL_law 262 = .ok (.iload_n 3, 1) := by decide +kernel
theorem dL_law_263 : decode cL_law 263 = .ok (.iconst 2, 1) := by decide +kernel
theorem dL_law_264 : decode cL_law 264 = .ok (.iadd, 1) := by decide +kernel
theorem dL_law_265 : decode cL_law 265 = .ok (.iaload, 1) := by decide +kernel
theorem dL_law_266 : decode cL_law 266 = .ok (.invokevirtual 36, 3) := by decide +kernel
theorem dL_law_269 : decode cL_law 269 = .ok (.aload_n 2, 1) := by decide +kernel
theorem dL_law_270 : decode cL_law 270 = .ok (.aload_n 0, 1) := by decide +kernel
theorem dL_law_271 : decode cL_law 271 = .ok (.iload_n 3, 1) := by decide +kernel
theorem dL_law_272 : decode cL_law 272 = .ok (.iconst 1, 1) := by decide +kernel
theorem dL_law_273 : decode cL_law 273 = .ok (.iadd, 1) := by decide +kernel
theorem dL_law_274 : decode cL_law 274 = .ok (.iaload, 1) := by decide +kernel
theorem dL_law_275 : decode cL_law 275 = .ok (.aload_n 0, 1) := by decide +kernel
theorem dL_law_276 : decode cL_law 276 = .ok (.iload_n 3, 1) := by decide +kernel
theorem dL_law_277 : decode cL_law 277 = .ok (.iconst 2, 1) := by decide +kernel
theorem dL_law_278 : decode cL_law 278 = .ok (.iadd, 1) := by decide +kernel
theorem dL_law_279 : decode cL_law 279 = .ok (.iaload, 1) := by decide +kernel
theorem dL_law_280 : decode cL_law 280 = .ok (.invokevirtual 40, 3) := by decide +kernel
theorem dL_law_283 : decode cL_law 283 = .ok (.if_icmp .eq 321, 3) := by decide +kernel
theorem dL_law_286 : decode cL_law 286 = .ok (.iconst 0, 1) := by decide +kernel
theorem dL_law_287 : decode cL_law 287 = .ok (.ireturn, 1) := by decide +kernel
theorem dL_law_288 : decode cL_law 288 = .ok (.aload_n 1, 1) := by decide +kernel
theorem dL_law_289 : decode cL_law 289 = .ok (.aload_n 0, 1) := by decide +kernel
theorem dL_law_290 : decode cL_law 290 = .ok (.iload_n 3, 1) := by decide +kernel
theorem dL_law_291 : decode cL_law 291 = .ok (.iconst 1, 1) := by decide +kernel
theorem dL_law_292 : decode cL_law 292 = .ok (.iadd, 1) := by decide +kernel
theorem dL_law_293 : decode cL_law 293 = .ok (.iaload, 1) := by decide +kernel
theorem dL_law_294 : decode cL_law 294 = .ok (.invokevirtual 41, 3) := by decide +kernel
theorem dL_law_297 : decode cL_law 297 = .ok (.aload_n 2, 1) := by decide +kernel
theorem dL_law_298 : decode cL_law 298 = .ok (.aload_n 0, 1) := by decide +kernel
theorem dL_law_299 : decode cL_law 299 = .ok (.iload_n 3, 1) := by decide +kernel
theorem dL_law_300 : decode cL_law 300 = .ok (.iconst 1, 1) := by decide +kernel
theorem dL_law_301 : decode cL_law 301 = .ok (.iadd, 1) := by decide +kernel
theorem dL_law_302 : decode cL_law 302 = .ok (.iaload, 1) := by decide +kernel
theorem dL_law_303 : decode cL_law 303 = .ok (.invokevirtual 44, 3) := by decide +kernel
theorem dL_law_306 : decode cL_law 306 = .ok (.if_icmp .eq 298, 3) := by decide +kernel
theorem dL_law_309 : decode cL_law 309 = .ok (.iconst 0, 1) := by decide +kernel
theorem dL_law_310 : decode cL_law 310 = .ok (.ireturn, 1) := by decide +kernel
theorem dL_law_311 : decode cL_law 311 = .ok (.aload_n 1, 1) := by decide +kernel
theorem dL_law_312 : decode cL_law 312 = .ok (.aload_n 0, 1) := by decide +kernel
theorem dL_law_313 : decode cL_law 313 = .ok (.iload_n 3, 1) := by decide +kernel
theorem dL_law_314 : decode cL_law 314 = .ok (.iconst 1, 1) := by decide +kernel
theorem dL_law_315 : decode cL_law 315 = .ok (.iadd, 1) := by decide +kernel
theorem dL_law_316 : decode cL_law 316 = .ok (.iaload, 1) := by decide +kernel
theorem dL_law_317 : decode cL_law 317 = .ok (.aload_n 0, 1) := by decide +kernel
theorem dL_law_318 : decode cL_law 318 = .ok (.iload_n 3, 1) := by decide +kernel
theorem dL_law_319 : decode cL_law 319 = .ok (.iconst 2, 1) := by decide +kernel
theorem dL_law_320 : decode cL_law 320 = .ok (.iadd, 1) := by decide +kernel
theorem dL_law_321 : decode cL_law 321 = .ok (.iaload, 1) := by decide +kernel
theorem dL_law_322 : decode cL_law 322 = .ok (.aload_n 0, 1) := by decide +kernel
theorem dL_law_323 : decode cL_law 323 = .ok (.iload_n 3, 1) := by decide +kernel
theorem dL_law_324 : decode cL_law 324 = .ok (.iconst 3, 1) := by decide +kernel
theorem dL_law_325 : decode cL_law 325 = .ok (.iadd, 1) := by decide +kernel
theorem dL_law_326 : decode cL_law 326 = .ok (.iaload, 1) := by decide +kernel
theorem dL_law_327 : decode cL_law 327 = .ok (.invokevirtual 45, 3) := by decide +kernel
theorem dL_law_330 : decode cL_law 330 = .ok (.aload_n 2, 1) := by decide +kernel
theorem dL_law_331 : decode cL_law 331 = .ok (.aload_n 0, 1) := by decide +kernel
theorem dL_law_332 : decode cL_law 332 = .ok (.iload_n 3, 1) := by decide +kernel
theorem dL_law_333 : decode cL_law 333 = .ok (.iconst 1, 1) := by decide +kernel
theorem dL_law_334 : decode cL_law 334 = .ok (.iadd, 1) := by decide +kernel
theorem dL_law_335 : decode cL_law 335 = .ok (.iaload, 1) := by decide +kernel
theorem dL_law_336 : decode cL_law 336 = .ok (.aload_n 0, 1) := by decide +kernel
theorem dL_law_337 : decode cL_law 337 = .ok (.iload_n 3, 1) := by decide +kernel
theorem dL_law_338 : decode cL_law 338 = .ok (.iconst 2, 1) := by decide +kernel
theorem dL_law_339 : decode cL_law 339 = .ok (.iadd, 1) := by decide +kernel
theorem dL_law_340 : decode cL_law 340 = .ok (.iaload, 1) := by decide +kernel
theorem dL_law_341 : decode cL_law 341 = .ok (.aload_n 0, 1) := by decide +kernel
theorem dL_law_342 : decode cL_law 342 = .ok (.iload_n 3, 1) := by decide +kernel
theorem dL_law_343 : decode cL_law 343 = .ok (.iconst 3, 1) := by decide +kernel
theorem dL_law_344 : decode cL_law 344 = .ok (.iadd, 1) := by decide +kernel
theorem dL_law_345 : decode cL_law 345 = .ok (.iaload, 1) := by decide +kernel
theorem dL_law_346 : decode cL_law 346 = .ok (.invokevirtual 49, 3) := by decide +kernel
theorem dL_law_349 : decode cL_law 349 = .ok (.if_icmp .eq 255, 3) := by decide +kernel
theorem dL_law_352 : decode cL_law 352 = .ok (.iconst 0, 1) := by decide +kernel
theorem dL_law_353 : decode cL_law 353 = .ok (.ireturn, 1) := by decide +kernel
theorem dL_law_354 : decode cL_law 354 = .ok (.aload_n 1, 1) := by decide +kernel
theorem dL_law_355 : decode cL_law 355 = .ok (.aload_n 0, 1) := by decide +kernel
theorem dL_law_356 : decode cL_law 356 = .ok (.iload_n 3, 1) := by decide +kernel
theorem dL_law_357 : decode cL_law 357 = .ok (.iconst 1, 1) := by decide +kernel
theorem dL_law_358 : decode cL_law 358 = .ok (.iadd, 1) := by decide +kernel
theorem dL_law_359 : decode cL_law 359 = .ok (.iaload, 1) := by decide +kernel
theorem dL_law_360 : decode cL_law 360 = .ok (.aload_n 0, 1) := by decide +kernel
theorem dL_law_361 : decode cL_law 361 = .ok (.iload_n 3, 1) := by decide +kernel
theorem dL_law_362 : decode cL_law 362 = .ok (.iconst 2, 1) := by decide +kernel
theorem dL_law_363 : decode cL_law 363 = .ok (.iadd, 1) := by decide +kernel
theorem dL_law_364 : decode cL_law 364 = .ok (.iaload, 1) := by decide +kernel
theorem dL_law_365 : decode cL_law 365 = .ok (.invokevirtual 50, 3) := by decide +kernel
theorem dL_law_368 : decode cL_law 368 = .ok (.aload_n 2, 1) := by decide +kernel
theorem dL_law_369 : decode cL_law 369 = .ok (.aload_n 0, 1) := by decide +kernel
theorem dL_law_370 : decode cL_law 370 = .ok (.iload_n 3, 1) := by decide +kernel
theorem dL_law_371 : decode cL_law 371 = .ok (.iconst 1, 1) := by decide +kernel
theorem dL_law_372 : decode cL_law 372 = .ok (.iadd, 1) := by decide +kernel
theorem dL_law_373 : decode cL_law 373 = .ok (.iaload, 1) := by decide +kernel
theorem dL_law_374 : decode cL_law 374 = .ok (.aload_n 0, 1) := by decide +kernel
theorem dL_law_375 : decode cL_law 375 = .ok (.iload_n 3, 1) := by decide +kernel
theorem dL_law_376 : decode cL_law 376 = .ok (.iconst 2, 1) := by decide +kernel
theorem dL_law_377 : decode cL_law 377 = .ok (.iadd, 1) := by decide +kernel
theorem dL_law_378 : decode cL_law 378 = .ok (.iaload, 1) := by decide +kernel
theorem dL_law_379 : decode cL_law 379 = .ok (.invokevirtual 53, 3) := by decide +kernel
theorem dL_law_382 : decode cL_law 382 = .ok (.if_icmp .eq 222, 3) := by decide +kernel
theorem dL_law_385 : decode cL_law 385 = .ok (.iconst 0, 1) := by decide +kernel
theorem dL_law_386 : decode cL_law 386 = .ok (.ireturn, 1) := by decide +kernel
theorem dL_law_387 : decode cL_law 387 = .ok (.aload_n 1, 1) := by decide +kernel
theorem dL_law_388 : decode cL_law 388 = .ok (.aload_n 0, 1) := by decide +kernel
theorem dL_law_389 : decode cL_law 389 = .ok (.iload_n 3, 1) := by decide +kernel
theorem dL_law_390 : decode cL_law 390 = .ok (.iconst 1, 1) := by decide +kernel
theorem dL_law_391 : decode cL_law 391 = .ok (.iadd, 1) := by decide +kernel
theorem dL_law_392 : decode cL_law 392 = .ok (.iaload, 1) := by decide +kernel
theorem dL_law_393 : decode cL_law 393 = .ok (.aload_n 0, 1) := by decide +kernel
theorem dL_law_394 : decode cL_law 394 = .ok (.iload_n 3, 1) := by decide +kernel
theorem dL_law_395 : decode cL_law 395 = .ok (.iconst 2, 1) := by decide +kernel
theorem dL_law_396 : decode cL_law 396 = .ok (.iadd, 1) := by decide +kernel
theorem dL_law_397 : decode cL_law 397 = .ok (.iaload, 1) := by decide +kernel
theorem dL_law_398 : decode cL_law 398 = .ok (.invokevirtual 54, 3) := by decide +kernel
theorem dL_law_401 : decode cL_law 401 = .ok (.aload_n 2, 1) := by decide +kernel
theorem dL_law_402 : decode cL_law 402 = .ok (.aload_n 0, 1) := by decide +kernel
theorem dL_law_403 : decode cL_law 403 = .ok (.iload_n 3, 1) := by decide +kernel
theorem dL_law_404 : decode cL_law 404 = .ok (.iconst 1, 1) := by decide +kernel
theorem dL_law_405 : decode cL_law 405 = .ok (.iadd, 1) := by decide +kernel
theorem dL_law_406 : decode cL_law 406 = .ok (.iaload, 1) := by decide +kernel
theorem dL_law_407 : decode cL_law 407 = .ok (.aload_n 0, 1) := by decide +kernel
theorem dL_law_408 : decode cL_law 408 = .ok (.iload_n 3, 1) := by decide +kernel
theorem dL_law_409 : decode cL_law 409 = .ok (.iconst 2, 1) := by decide +kernel
theorem dL_law_410 : decode cL_law 410 = .ok (.iadd, 1) := by decide +kernel
theorem dL_law_411 : decode cL_law 411 = .ok (.iaload, 1) := by decide +kernel
theorem dL_law_412 : decode cL_law 412 = .ok (.invokevirtual 57, 3) := by decide +kernel
theorem dL_law_415 : decode cL_law 415 = .ok (.if_icmp .eq 189, 3) := by decide +kernel
theorem dL_law_418 : decode cL_law 418 = .ok (.iconst 0, 1) := by decide +kernel
theorem dL_law_419 : decode cL_law 419 = .ok (.ireturn, 1) := by decide +kernel
theorem dL_law_420 : decode cL_law 420 = .ok (.aload_n 1, 1) := by decide +kernel
theorem dL_law_421 : decode cL_law 421 = .ok (.invokevirtual 58, 3) := by decide +kernel
theorem dL_law_424 : decode cL_law 424 = .ok (.aload_n 2, 1) := by decide +kernel
theorem dL_law_425 : decode cL_law 425 = .ok (.invokevirtual 61, 3) := by decide +kernel
theorem dL_law_428 : decode cL_law 428 = .ok (.if_icmp .eq 176, 3) := by decide +kernel
theorem dL_law_431 : decode cL_law 431 = .ok (.iconst 0, 1) := by decide +kernel
theorem dL_law_432 : decode cL_law 432 = .ok (.ireturn, 1) := by decide +kernel
theorem dL_law_433 : decode cL_law 433 = .ok (.aload_n 1, 1) := by decide +kernel
theorem dL_law_434 : decode cL_law 434 = .ok (.aload_n 0, 1) := by decide +kernel
theorem dL_law_435 : decode cL_law 435 = .ok (.iload_n 3, 1) := by decide +kernel
theorem dL_law_436 : decode cL_law 436 = .ok (.iconst 1, 1) := by decide +kernel
theorem dL_law_437 : decode cL_law 437 = .ok (.iadd, 1) := by decide +kernel
theorem dL_law_438 : decode cL_law 438 = .ok (.iaload, 1) := by decide +kernel
theorem dL_law_439 : decode cL_law 439 = .ok (.invokevirtual 62, 3) := by decide +kernel
theorem dL_law_442 : decode cL_law 442 = .ok (.aload_n 2, 1) := by decide +kernel
theorem dL_law_443 : decode cL_law 443 = .ok (.aload_n 0, 1) := by decide +kernel
theorem dL_law_444 : decode cL_law 444 = .ok (.iload_n 3, 1) := by decide +kernel
theorem dL_law_445 : decode cL_law 445 = .ok (.iconst 1, 1) := by decide +kernel
theorem dL_law_446 : decode cL_law 446 = .ok (.iadd, 1) := by decide +kernel
theorem dL_law_447 : decode cL_law 447 = .ok (.iaload, 1) := by decide +kernel
theorem dL_law_448 : decode cL_law 448 = .ok (.invokevirtual 65, 3) := by decide +kernel
theorem dL_law_451 : decode cL_law 451 = .ok (.if_icmp .eq 153, 3) := by decide +kernel
theorem dL_law_454 : decode cL_law 454 = .ok (.iconst 0, 1) := by decide +kernel
theorem dL_law_455 : decode cL_law 455 = .ok (.ireturn, 1) := by decide +kernel
theorem dL_law_456 : decode cL_law 456 = .ok (.aload_n 1, 1) := by decide +kernel
theorem dL_law_457 : decode cL_law 457 = .ok (.invokevirtual 66, 3) := by decide +kernel
theorem dL_law_460 : decode cL_law 460 = .ok (.aload_n 2, 1) := by decide +kernel
theorem dL_law_461 : decode cL_law 461 = .ok (.invokevirtual 69, 3) := by decide +kernel
theorem dL_law_464 : decode cL_law 464 = .ok (.if_icmp .eq 140, 3) := by decide +kernel
theorem dL_law_467 : decode cL_law 467 = .ok (.iconst 0, 1) := by decide +kernel
theorem dL_law_468 : decode cL_law 468 = .ok (.ireturn, 1) := by decide +kernel
theorem dL_law_469 : decode cL_law 469 = .ok (.aload_n 1, 1) := by decide +kernel
theorem dL_law_470 : decode cL_law 470 = .ok (.aload_n 0, 1) := by decide +kernel
theorem dL_law_471 : decode cL_law 471 = .ok (.iload_n 3, 1) := by decide +kernel
theorem dL_law_472 : decode cL_law 472 = .ok (.iconst 1, 1) := by decide +kernel
theorem dL_law_473 : decode cL_law 473 = .ok (.iadd, 1) := by decide +kernel
theorem dL_law_474 : decode cL_law 474 = .ok (.iaload, 1) := by decide +kernel
theorem dL_law_475 : decode cL_law 475 = .ok (.aload_n 0, 1) := by decide +kernel
theorem dL_law_476 : decode cL_law 476 = .ok (.iload_n 3, 1) := by decide +kernel
theorem dL_law_477 : decode cL_law 477 = .ok (.iconst 2, 1) := by decide +kernel
theorem dL_law_478 : decode cL_law 478 = .ok (.iadd, 1) := by decide +kernel
theorem dL_law_479 : decode cL_law 479 = .ok (.iaload, 1) := by decide +kernel
theorem dL_law_480 : decode cL_law 480 = .ok (.invokevirtual 70, 3) := by decide +kernel
theorem dL_law_483 : decode cL_law 483 = .ok (.aload_n 2, 1) := by decide +kernel
theorem dL_law_484 : decode cL_law 484 = .ok (.aload_n 0, 1) := by decide +kernel
theorem dL_law_485 : decode cL_law 485 = .ok (.iload_n 3, 1) := by decide +kernel
theorem dL_law_486 : decode cL_law 486 = .ok (.iconst 1, 1) := by decide +kernel
theorem dL_law_487 : decode cL_law 487 = .ok (.iadd, 1) := by decide +kernel
theorem dL_law_488 : decode cL_law 488 = .ok (.iaload, 1) := by decide +kernel
theorem dL_law_489 : decode cL_law 489 = .ok (.aload_n 0, 1) := by decide +kernel
theorem dL_law_490 : decode cL_law 490 = .ok (.iload_n 3, 1) := by decide +kernel
theorem dL_law_491 : decode cL_law 491 = .ok (.iconst 2, 1) := by decide +kernel
theorem dL_law_492 : decode cL_law 492 = .ok (.iadd, 1) := by decide +kernel
theorem dL_law_493 : decode cL_law 493 = .ok (.iaload, 1) := by decide +kernel
theorem dL_law_494 : decode cL_law 494 = .ok (.invokevirtual 73, 3) := by decide +kernel
theorem dL_law_497 : decode cL_law 497 = .ok (.if_icmp .eq 107, 3) := by decide +kernel
theorem dL_law_500 : decode cL_law 500 = .ok (.iconst 0, 1) := by decide +kernel
theorem dL_law_501 : decode cL_law 501 = .ok (.ireturn, 1) := by decide +kernel
theorem dL_law_502 : decode cL_law 502 = .ok (.aload_n 1, 1) := by decide +kernel
theorem dL_law_503 : decode cL_law 503 = .ok (.aload_n 0, 1) := by decide +kernel
theorem dL_law_504 : decode cL_law 504 = .ok (.iload_n 3, 1) := by decide +kernel
theorem dL_law_505 : decode cL_law 505 = .ok (.iconst 1, 1) := by decide +kernel
theorem dL_law_506 : decode cL_law 506 = .ok (.iadd, 1) := by decide +kernel
theorem dL_law_507 : decode cL_law 507 = .ok (.iaload, 1) := by decide +kernel
theorem dL_law_508 : decode cL_law 508 = .ok (.invokevirtual 74, 3) := by decide +kernel
theorem dL_law_511 : decode cL_law 511 = .ok (.aload_n 2, 1) := by decide +kernel
theorem dL_law_512 : decode cL_law 512 = .ok (.aload_n 0, 1) := by decide +kernel
theorem dL_law_513 : decode cL_law 513 = .ok (.iload_n 3, 1) := by decide +kernel
theorem dL_law_514 : decode cL_law 514 = .ok (.iconst 1, 1) := by decide +kernel
theorem dL_law_515 : decode cL_law 515 = .ok (.iadd, 1) := by decide +kernel
theorem dL_law_516 : decode cL_law 516 = .ok (.iaload, 1) := by decide +kernel
theorem dL_law_517 : decode cL_law 517 = .ok (.invokevirtual 77, 3) := by decide +kernel
theorem dL_law_520 : decode cL_law 520 = .ok (.if_icmp .eq 84, 3) := by decide +kernel
theorem dL_law_523 : decode cL_law 523 = .ok (.iconst 0, 1) := by decide +kernel
theorem dL_law_524 : decode cL_law 524 = .ok (.ireturn, 1) := by decide +kernel
theorem dL_law_525 : decode cL_law 525 = .ok (.aload_n 1, 1) := by decide +kernel
theorem dL_law_526 : decode cL_law 526 = .ok (.aload_n 0, 1) := by decide +kernel
theorem dL_law_527 : decode cL_law 527 = .ok (.iload_n 3, 1) := by decide +kernel
theorem dL_law_528 : decode cL_law 528 = .ok (.iconst 1, 1) := by decide +kernel
theorem dL_law_529 : decode cL_law 529 = .ok (.iadd, 1) := by decide +kernel
theorem dL_law_530 : decode cL_law 530 = .ok (.iaload, 1) := by decide +kernel
theorem dL_law_531 : decode cL_law 531 = .ok (.invokevirtual 78, 3) := by decide +kernel
theorem dL_law_534 : decode cL_law 534 = .ok (.aload_n 2, 1) := by decide +kernel
theorem dL_law_535 : decode cL_law 535 = .ok (.aload_n 0, 1) := by decide +kernel
theorem dL_law_536 : decode cL_law 536 = .ok (.iload_n 3, 1) := by decide +kernel
theorem dL_law_537 : decode cL_law 537 = .ok (.iconst 1, 1) := by decide +kernel
theorem dL_law_538 : decode cL_law 538 = .ok (.iadd, 1) := by decide +kernel
theorem dL_law_539 : decode cL_law 539 = .ok (.iaload, 1) := by decide +kernel
theorem dL_law_540 : decode cL_law 540 = .ok (.invokevirtual 81, 3) := by decide +kernel
theorem dL_law_543 : decode cL_law 543 = .ok (.if_icmp .eq 61, 3) := by decide +kernel
theorem dL_law_546 : decode cL_law 546 = .ok (.iconst 0, 1) := by decide +kernel
theorem dL_law_547 : decode cL_law 547 = .ok (.ireturn, 1) := by decide +kernel
theorem dL_law_548 : decode cL_law 548 = .ok (.aload_n 1, 1) := by decide +kernel
theorem dL_law_549 : decode cL_law 549 = .ok (.aload_n 0, 1) := by decide +kernel
theorem dL_law_550 : decode cL_law 550 = .ok (.iload_n 3, 1) := by decide +kernel
theorem dL_law_551 : decode cL_law 551 = .ok (.iconst 1, 1) := by decide +kernel
theorem dL_law_552 : decode cL_law 552 = .ok (.iadd, 1) := by decide +kernel
theorem dL_law_553 : decode cL_law 553 = .ok (.iaload, 1) := by decide +kernel
theorem dL_law_554 : decode cL_law 554 = .ok (.aload_n 0, 1) := by decide +kernel
theorem dL_law_555 : decode cL_law 555 = .ok (.iload_n 3, 1) := by decide +kernel
theorem dL_law_556 : decode cL_law 556 = .ok (.iconst 2, 1) := by decide +kernel
theorem dL_law_557 : decode cL_law 557 = .ok (.iadd, 1) := by decide +kernel
theorem dL_law_558 : decode cL_law 558 = .ok (.iaload, 1) := by decide +kernel
theorem dL_law_559 : decode cL_law 559 = .ok (.invokevirtual 82, 3) := by decide +kernel
theorem dL_law_562 : decode cL_law 562 = .ok (.aload_n 2, 1) := by decide +kernel
theorem dL_law_563 : decode cL_law 563 = .ok (.aload_n 0, 1) := by decide +kernel
theorem dL_law_564 : decode cL_law 564 = .ok (.iload_n 3, 1) := by decide +kernel
theorem dL_law_565 : decode cL_law 565 = .ok (.iconst 1, 1) := by decide +kernel
theorem dL_law_566 : decode cL_law 566 = .ok (.iadd, 1) := by decide +kernel
theorem dL_law_567 : decode cL_law 567 = .ok (.iaload, 1) := by decide +kernel
theorem dL_law_568 : decode cL_law 568 = .ok (.aload_n 0, 1) := by decide +kernel
theorem dL_law_569 : decode cL_law 569 = .ok (.iload_n 3, 1) := by decide +kernel
theorem dL_law_570 : decode cL_law 570 = .ok (.iconst 2, 1) := by decide +kernel
theorem dL_law_571 : decode cL_law 571 = .ok (.iadd, 1) := by decide +kernel
theorem dL_law_572 : decode cL_law 572 = .ok (.iaload, 1) := by decide +kernel
theorem dL_law_573 : decode cL_law 573 = .ok (.invokevirtual 85, 3) := by decide +kernel
theorem dL_law_576 : decode cL_law 576 = .ok (.if_icmp .eq 28, 3) := by decide +kernel
theorem dL_law_579 : decode cL_law 579 = .ok (.iconst 0, 1) := by decide +kernel
theorem dL_law_580 : decode cL_law 580 = .ok (.ireturn, 1) := by decide +kernel
theorem dL_law_581 : decode cL_law 581 = .ok (.aload_n 1, 1) := by decide +kernel
theorem dL_law_582 : decode cL_law 582 = .ok (.aload_n 0, 1) := by decide +kernel
theorem dL_law_583 : decode cL_law 583 = .ok (.iload_n 3, 1) := by decide +kernel
theorem dL_law_584 : decode cL_law 584 = .ok (.iconst 1, 1) := by decide +kernel
theorem dL_law_585 : decode cL_law 585 = .ok (.iadd, 1) := by decide +kernel
theorem dL_law_586 : decode cL_law 586 = .ok (.iaload, 1) := by decide +kernel
theorem dL_law_587 : decode cL_law 587 = .ok (.invokevirtual 86, 3) := by decide +kernel
theorem dL_law_590 : decode cL_law 590 = .ok (.aload_n 2, 1) := by decide +kernel
theorem dL_law_591 : decode cL_law 591 = .ok (.aload_n 0, 1) := by decide +kernel
theorem dL_law_592 : decode cL_law 592 = .ok (.iload_n 3, 1) := by decide +kernel
theorem dL_law_593 : decode cL_law 593 = .ok (.iconst 1, 1) := by decide +kernel
theorem dL_law_594 : decode cL_law 594 = .ok (.iadd, 1) := by decide +kernel
theorem dL_law_595 : decode cL_law 595 = .ok (.iaload, 1) := by decide +kernel
theorem dL_law_596 : decode cL_law 596 = .ok (.invokevirtual 89, 3) := by decide +kernel
theorem dL_law_599 : decode cL_law 599 = .ok (.if_icmp .eq 5, 3) := by decide +kernel
theorem dL_law_602 : decode cL_law 602 = .ok (.iconst 0, 1) := by decide +kernel
theorem dL_law_603 : decode cL_law 603 = .ok (.ireturn, 1) := by decide +kernel
theorem dL_law_604 : decode cL_law 604 = .ok (.iinc 3 5, 3) := by decide +kernel
theorem dL_law_607 : decode cL_law 607 = .ok (.goto (-589), 3) := by decide +kernel
theorem dL_law_610 : decode cL_law 610 = .ok (.iconst 1, 1) := by decide +kernel
theorem dL_law_611 : decode cL_law 611 = .ok (.ireturn, 1) := by decide +kernel
end
section
/-! States of objects: scalar fields by their number, array fields by theirs. -/
abbrev ob_S : Type := (Nat → Int32) × (Nat → Nat → Int32)
/-- a scalar field is set -/
def ob_i (u : ob_S) (k : Nat) (v : Int32) : ob_S := (upd u.1 k v, u.2)
/-- a place of an array field is set -/
def ob_a (u : ob_S) (k i : Nat) (v : Int32) : ob_S := (u.1, va_up u.2 k (upd (u.2 k) i v))
/-- the card: eight objects (0 its own scalars, 1 Memory, 2 text, 3 secret, 4 Queue, 5 Eraser, 6 Stream, 7 Link) -/
abbrev cd_S : Type := Nat → ob_S
def cd_i (u : cd_S) (k : Nat) (v : Int32) : cd_S := va_up u 0 (ob_i (u 0) k v)
/-! Worlds -/
abbrev ct_T (cI cZ : ClassId) : List (ClassId × FieldType) := [(cI, .int), (cZ, .boolean)]
/-- what a method's start asks of the heap -/
def ct_B (D : va_G) (tys : List (ClassId × FieldType)) (w : va_W) (sz : Nat) : State → Prop := fun U => U.heap.size = sz ∧ va_P D vwCl w U.heap ∧ va_K D vwCl tys U ∧ va_D (fun _ => True) w
def ct_E {S : Type} (D : va_G) (tys : List (ClassId × FieldType)) (w1 : S → va_W) (A : Nat → Prop) : S → State → Prop := fun u t => va_P D vwCl (w1 u) t.heap ∧ va_K D vwCl tys t ∧ va_D A (w1 u)
def ct_Qi {S : Type} (D : va_G) (tys : List (ClassId × FieldType)) (w1 : S → va_W) (F : Int32 × S) (A : Nat → Prop) : Array Value → State → Outcome → State → Prop := va_Qi (fun (r : Int32) (u : S) => r = F.1 ∧ u = F.2) (ct_E D tys w1 A) A
def ct_Qv {S : Type} (D : va_G) (tys : List (ClassId × FieldType)) (w1 : S → va_W) (F : S) (A : Nat → Prop) : Array Value → State → Outcome → State → Prop := va_Qv (fun (u : S) => u = F) (ct_E D tys w1 A) A
def ct_Qp (D : va_G) (tys : List (ClassId × FieldType)) (v : Int32) (A : Nat → Prop) : Array Value → State → Outcome → State → Prop := va_Qi (fun (r : Int32) (_ : Unit) => r = v) (fun _ t => va_K D vwCl tys t) A
/-- contracts: an int and a new world; a new world; an int alone (nothing is written) -/
def Ct_i (l : Launch) (y : MethodName) (ws : List Cond) (rm : Room) (D : va_G) (tys : List (ClassId × FieldType)) (av : List Value) (w0 : va_W) {S : Type} (w1 : S → va_W) (F : Int32 × S) : Prop :=
  ∀ sz : Nat, Met l y ws rm (va_Pc av (ct_B D tys w0 sz)) (ct_Qi D tys w1 F (va_A w0 sz)) 0 0 (va_A w0 sz)
def Ct_v (l : Launch) (y : MethodName) (ws : List Cond) (rm : Room) (D : va_G) (tys : List (ClassId × FieldType)) (av : List Value) (w0 : va_W) {S : Type} (w1 : S → va_W) (F : S) : Prop :=
  ∀ sz : Nat, Met l y ws rm (va_Pc av (ct_B D tys w0 sz)) (ct_Qv D tys w1 F (va_A w0 sz)) 0 0 (va_A w0 sz)
def Ct_p (l : Launch) (y : MethodName) (ws : List Cond) (rm : Room) (D : va_G) (tys : List (ClassId × FieldType)) (av : List Value) (w0 : va_W) (v : Int32) : Prop :=
  ∀ sz : Nat, Met l y ws rm (va_Pc av (ct_B D tys w0 sz)) (ct_Qp D tys v (va_A [] sz)) 0 0 (va_A [] sz)
/-- what stands still inside a method -/
def cx_C (p : Program) (c : Code) (cc : ByteArray) (nL : Nat) (s : State) (m : MethodId) (args : Array Value) (Ts : List Cond) (own : String) (D : va_G) (tys : List (ClassId × FieldType)) (A : Nat → Prop) : Prop :=
  p.tables.exec = Jvm.exec ∧ c.code = cc ∧ c.maxLocals = nL ∧ s.vm.findClass own = some m.cls ∧ (∀ w ∈ Ts, w.before args s = true) ∧ va_K D vwCl tys s ∧ (∀ q : Nat, s.heap.size ≤ q → A q)
theorem fm_of {α β : Type} {l : List α} {f : α → Option β} {r : List β} (h : l.map f = r.map some) : l.filterMap f = r := by
  have h1 : l.filterMap f = (l.map f).filterMap id := by rw [List.filterMap_map]; rfl
  rw [h1, h, List.filterMap_map]
  exact List.filterMap_some
section BEN
variable {l : Launch} {y : MethodName} {ws ws' : List Cond} {rm : Room} {D : va_G} {tys : List (ClassId × FieldType)} {av : List Value} {w0 : va_W} {S : Type} {w1 : S → va_W} {cc : ByteArray} {maxL : Nat} {ret : Option FieldType} {own : String}
set_option maxHeartbeats 4000000 in
theorem en_i {F : Int32 × S} (hy : plainName y.cls = true) (hw : ws = Cond.code y cc maxL ret :: ws') (ho : y.cls = own) (hn : (lg_sl av).length ≤ maxL)
    (body : ∀ (p : Program) (e : Env) (s : State) (m : MethodId) (args : Array Value) (below : List Frame) (meth : Method) (c : Code) (A : Nat → Prop) (ls : Array Slot), cx_C p c cc maxL s m args ws own D tys A → meth.sig.returnType = ret → meth.locks = false → va_P D vwCl w0 s.heap → va_D A w0 → va_S A s.heap s.heap [] → lv_has ls maxL (lv_args 0 av) → W p l e rm s m args below meth c s.heap [] 0 0 (MQ below (ct_Qi D tys w1 F A) args s 0 0 A) (F0 m 0 ls [])) : Ct_i l y ws rm D tys av w0 w1 F := by
  intro sz
  refine Met.ofW (cc := cc) (maxL := maxL) (ret := ret) hy hw ?_
  intro p e s m args below meth c s₁ B hml hv
  obtain ⟨rfl, hsz, hP, hK, hD0⟩ := hv
  have hts := atoms_spec (ws := ws) B.pre
  have hown : s.vm.findClass own = some m.cls := ho ▸ findClass_of_methodNamed B.named
  subst hsz
  have hD := hD0.self (sz := s.heap.size)
  generalize hAe : va_A w0 s.heap.size = A at hD ⊢
  have hA : ∀ q : Nat, s.heap.size ≤ q → A q := fun q h => by rw [← hAe]; exact Or.inr h
  have hl := lv_entry av (n := maxL) hn
  rw [lg_entry_eq]
  generalize (lg_sl av ++ List.replicate (maxL - (lg_sl av).length) Slot.unset).toArray = ls at hl ⊢
  exact body p e s m _ below meth c A ls ⟨B.exec, B.bytes, hml, hown, hts, hK, hA⟩ B.returns B.notSynchronized hP hD va_S.rf hl
set_option maxHeartbeats 4000000 in
theorem en_v {F : S} (hy : plainName y.cls = true) (hw : ws = Cond.code y cc maxL ret :: ws') (ho : y.cls = own) (hn : (lg_sl av).length ≤ maxL)
    (body : ∀ (p : Program) (e : Env) (s : State) (m : MethodId) (args : Array Value) (below : List Frame) (meth : Method) (c : Code) (A : Nat → Prop) (ls : Array Slot), cx_C p c cc maxL s m args ws own D tys A → meth.sig.returnType = ret → meth.locks = false → va_P D vwCl w0 s.heap → va_D A w0 → va_S A s.heap s.heap [] → lv_has ls maxL (lv_args 0 av) → W p l e rm s m args below meth c s.heap [] 0 0 (MQ below (ct_Qv D tys w1 F A) args s 0 0 A) (F0 m 0 ls [])) : Ct_v l y ws rm D tys av w0 w1 F := by
  intro sz
  refine Met.ofW (cc := cc) (maxL := maxL) (ret := ret) hy hw ?_
  intro p e s m args below meth c s₁ B hml hv
  obtain ⟨rfl, hsz, hP, hK, hD0⟩ := hv
  have hts := atoms_spec (ws := ws) B.pre
  have hown : s.vm.findClass own = some m.cls := ho ▸ findClass_of_methodNamed B.named
  subst hsz
  have hD := hD0.self (sz := s.heap.size)
  generalize hAe : va_A w0 s.heap.size = A at hD ⊢
  have hA : ∀ q : Nat, s.heap.size ≤ q → A q := fun q h => by rw [← hAe]; exact Or.inr h
  have hl := lv_entry av (n := maxL) hn
  rw [lg_entry_eq]
  generalize (lg_sl av ++ List.replicate (maxL - (lg_sl av).length) Slot.unset).toArray = ls at hl ⊢
  exact body p e s m _ below meth c A ls ⟨B.exec, B.bytes, hml, hown, hts, hK, hA⟩ B.returns B.notSynchronized hP hD va_S.rf hl
set_option maxHeartbeats 4000000 in
theorem en_p {v : Int32} (hy : plainName y.cls = true) (hw : ws = Cond.code y cc maxL ret :: ws') (ho : y.cls = own) (hn : (lg_sl av).length ≤ maxL)
    (body : ∀ (p : Program) (e : Env) (s : State) (m : MethodId) (args : Array Value) (below : List Frame) (meth : Method) (c : Code) (A : Nat → Prop) (ls : Array Slot), cx_C p c cc maxL s m args ws own D tys A → meth.sig.returnType = ret → meth.locks = false → va_P D vwCl w0 s.heap → va_D (fun _ => True) w0 → va_S A s.heap s.heap [] → lv_has ls maxL (lv_args 0 av) → W p l e rm s m args below meth c s.heap [] 0 0 (MQ below (ct_Qp D tys v A) args s 0 0 A) (F0 m 0 ls [])) : Ct_p l y ws rm D tys av w0 v := by
  intro sz
  refine Met.ofW (cc := cc) (maxL := maxL) (ret := ret) hy hw ?_
  intro p e s m args below meth c s₁ B hml hv
  obtain ⟨rfl, hsz, hP, hK, hD0⟩ := hv
  have hts := atoms_spec (ws := ws) B.pre
  have hown : s.vm.findClass own = some m.cls := ho ▸ findClass_of_methodNamed B.named
  subst hsz
  generalize hAe : va_A ([] : va_W) s.heap.size = A at ⊢
  have hA : ∀ q : Nat, s.heap.size ≤ q → A q := fun q h => by rw [← hAe]; exact Or.inr h
  have hl := lv_entry av (n := maxL) hn
  rw [lg_entry_eq]
  generalize (lg_sl av ++ List.replicate (maxL - (lg_sl av).length) Slot.unset).toArray = ls at hl ⊢
  exact body p e s m _ below meth c A ls ⟨B.exec, B.bytes, hml, hown, hts, hK, hA⟩ B.returns B.notSynchronized hP hD0 va_S.rf hl
end BEN
section BRT
variable {p : Program} {l : Launch} {e : Env} {R : Room} {s : State} {m : MethodId} {args : Array Value} {below : List Frame} {meth : Method} {c : Code} {H : Heap} {locs : List Loc} {cells slots : Nat} {Q : State → Prop}
variable {cc : ByteArray} {nL : Nat} {Ts : List Cond} {own : String} {D : va_G} {tys : List (ClassId × FieldType)} {A : Nat → Prop} {pc : Nat} {ls : Array Slot}
theorem rt_i {S : Type} {w1 : S → va_W} {F : Int32 × S} {v : Int32} {u : S} (C : cx_C p c cc nL s m args Ts own D tys A) (hr : meth.sig.returnType = some .int) (hlk : meth.locks = false) (hP : va_P D vwCl (w1 u) H) (hD : va_D A (w1 u)) (hS : va_S A s.heap H locs) (hF : F = (v, u)) (hdg : decode cc pc = .ok (.ireturn, 1)) : W p l e R s m args below meth c H locs 0 0 (MQ below (ct_Qi D tys w1 F A) args s 0 0 A) (F0 m pc ls [.int v]) :=
  W.iret C.1 C.2.1 hr (fun t ht hW => ⟨⟨v, u, rfl, ⟨by rw [hF], by rw [hF]⟩, by rw [ht]; exact hP, va_K.moved hW.alike C.2.2.2.2.2.1, hD⟩, hS.F ht⟩) hS.2.2 hdg hlk
theorem rt_z {S : Type} {w1 : S → va_W} {F : Int32 × S} {v : Int32} {u : S} (C : cx_C p c cc nL s m args Ts own D tys A) (hr : meth.sig.returnType = some .boolean) (hlk : meth.locks = false) (hn : v &&& 1 = v) (hP : va_P D vwCl (w1 u) H) (hD : va_D A (w1 u)) (hS : va_S A s.heap H locs) (hF : F = (v, u)) (hdg : decode cc pc = .ok (.ireturn, 1)) : W p l e R s m args below meth c H locs 0 0 (MQ below (ct_Qi D tys w1 F A) args s 0 0 A) (F0 m pc ls [.int v]) :=
  W.zret C.1 C.2.1 hr (by show Value.int (v &&& 1) = Value.int v; rw [hn]) (fun t ht hW => ⟨⟨v, u, rfl, ⟨by rw [hF], by rw [hF]⟩, by rw [ht]; exact hP, va_K.moved hW.alike C.2.2.2.2.2.1, hD⟩, hS.F ht⟩) hS.2.2 hdg hlk
theorem rt_v {S : Type} {w1 : S → va_W} {F : S} {u : S} (C : cx_C p c cc nL s m args Ts own D tys A) (hr : meth.sig.returnType = none) (hlk : meth.locks = false) (hP : va_P D vwCl (w1 u) H) (hD : va_D A (w1 u)) (hS : va_S A s.heap H locs) (hF : F = u) (hdg : decode cc pc = .ok (.return_, 1)) : W p l e R s m args below meth c H locs 0 0 (MQ below (ct_Qv D tys w1 F A) args s 0 0 A) (F0 m pc ls []) :=
  W.vret C.1 C.2.1 hr (fun t ht hW => ⟨⟨u, rfl, hF.symm, by rw [ht]; exact hP, va_K.moved hW.alike C.2.2.2.2.2.1, hD⟩, hS.F ht⟩) hS.2.2 hdg hlk
theorem rt_p {v w : Int32} (C : cx_C p c cc nL s m args Ts own D tys A) (hr : meth.sig.returnType = some .int) (hlk : meth.locks = false) (hS : va_S A s.heap H locs) (hF : w = v) (hdg : decode cc pc = .ok (.ireturn, 1)) : W p l e R s m args below meth c H locs 0 0 (MQ below (ct_Qp D tys w A) args s 0 0 A) (F0 m pc ls [.int v]) :=
  W.iret C.1 C.2.1 hr (fun t ht hW => ⟨⟨v, (), rfl, hF.symm, va_K.moved hW.alike C.2.2.2.2.2.1⟩, hS.F ht⟩) hS.2.2 hdg hlk
theorem rt_q {v w : Int32} (C : cx_C p c cc nL s m args Ts own D tys A) (hr : meth.sig.returnType = some .boolean) (hlk : meth.locks = false) (hn : v &&& 1 = v) (hS : va_S A s.heap H locs) (hF : w = v) (hdg : decode cc pc = .ok (.ireturn, 1)) : W p l e R s m args below meth c H locs 0 0 (MQ below (ct_Qp D tys w A) args s 0 0 A) (F0 m pc ls [.int v]) :=
  W.zret C.1 C.2.1 hr (by show Value.int (v &&& 1) = Value.int v; rw [hn]) (fun t ht hW => ⟨⟨v, (), rfl, hF.symm, va_K.moved hW.alike C.2.2.2.2.2.1⟩, hS.F ht⟩) hS.2.2 hdg hlk
/-- two roads that meet with a number on the stack -/
theorem jn_i {g : Int32 → JFrame} {G : JFrame} (v : Int32) (k : ∀ x : Int32, x = v → W p l e R s m args below meth c H locs cells slots Q (g x)) (r : (∀ x : Int32, x = v → W p l e R s m args below meth c H locs cells slots Q (g x)) → W p l e R s m args below meth c H locs cells slots Q G) : W p l e R s m args below meth c H locs cells slots Q G := r k
/-- a table switch that comes to its default: outside, or at a hole -/
theorem tb_any {rest : List Value} {dflt lo hi : Int} {offs : Array Int} {len : Nat} {x : Int32} {tgt : Nat} (hx : p.tables.exec = Jvm.exec) (hb : c.code = cc) (hdg : decode cc pc = .ok (.tableswitch dflt lo hi offs, len)) (h : (x.toInt < lo ∨ hi < x.toInt) ∨ (¬ x.toInt < lo ∧ ¬ hi < x.toInt ∧ offs[(x.toInt - lo).toNat]? = some dflt)) (ht : (pc : Int) + dflt = (tgt : Int))
    (k : W p l e R s m args below meth c H locs cells slots Q (F0 m tgt ls rest)) : W p l e R s m args below meth c H locs cells slots Q (F0 m pc ls (.int x :: rest)) := by
  rcases h with h | ⟨h1, h2, h3⟩
  · exact lv_tableOut hx hb hdg h ht k
  · exact lv_tableIn hx hb hdg h1 h2 h3 ht k
/-! Calls -/
/-- the callee's cells among the caller's -/
def Su (w wc : va_W) : Prop := ∃ isC : List Nat, va_nd isC = true ∧ isC.map (fun i => w[i]?) = wc.map some
/-- the callee's cells among the caller's, and the caller's world behind the call -/
def Sp (w wc : va_W) {S : Type} (w1 wo : S → va_W) : Prop := ∃ (isC isR : List Nat) (wr : va_W), va_nd isC = true ∧ isC.map (fun i => w[i]?) = wc.map some ∧ isR.map (fun i => w[i]?) = wr.map some ∧ va_nd isR = true ∧ (∀ i ∈ isR, i ∉ isC) ∧ ∃ pm : List Nat, va_nd pm = true ∧ ∀ u : S, pm.map (fun i => (wr ++ w1 u)[i]?) = (wo u).map some
variable {y : MethodName} {ws : List Cond} {rm : Room} {bytes : ByteArray} {maxL n index : Nat} {ret : Option FieldType} {Cn : String} {b : Nat} {As rest st0 : List Value} {w wc : va_W}
set_option maxHeartbeats 4000000 in
theorem kv_p {v : Int32} {D' : Nat → Prop} (C : cx_C p c cc nL s m args Ts own D tys A) (hM : Ct_p l y ws rm D tys (.ref b :: As) wc v) (cw : CallW R s args own Cn index y bytes maxL ret ws rm 0 0 n) {q : vw_C} {fs : List Value} {ci q0 : Nat} (hc : vwCl[ci]? = some q) (hq : q.1 = Cn) (he : wc[q0]? = some (b, .inr (ci, fs)))
    (hP : va_P D vwCl w H) (hD : va_D D' w) (hS : va_S A s.heap H locs) (su : Su w wc) (hn : As.length = n) (hsize : ls.size = nL) (hst : st0 = As.reverse ++ .ref b :: rest) (hW : (rest.map fun v => v.category).sum ≤ 8) (hdg : decode cc pc = .ok (.invokevirtual index, 3)) (hcs : cells ≤ R.cells ∧ slots ≤ R.slots)
    (kk : ∀ (H1 : Heap) (locs1 : List Loc), va_P D vwCl w H1 → va_S A s.heap H1 locs1 → W p l e R s m args below meth c H1 locs1 cells slots Q (F0 m (pc + 3) ls (.int v :: rest))) : W p l e R s m args below meth c H locs cells slots Q (F0 m pc ls st0) := by
  obtain ⟨isC, hnC, hC⟩ := su
  have hPc := hP.sub (ws' := wc) isC (fm_of hC)
  have hDc := hD.sub isC hnC hC
  have hK := C.2.2.2.2.2.1
  have hFc : ∀ q, va_A ([] : va_W) H.size q → A q := fun q h => by
    rcases h with ⟨k, e, h⟩ | h
    · simp at h
    · exact C.2.2.2.2.2.2 q (Nat.le_trans hS.1 h)
  refine va_calli (va_runV (As := As) (rest := rest) ⟨C.1, C.2.1, C.2.2.1, C.2.2.2.1, C.2.2.2.2.1⟩ (hM H.size) cw ⟨fun a U g mk q => by obtain ⟨q0, q1, qP, qK, qD⟩ := q; exact ⟨q0, q1, qP, va_K.moved (u := U) (U := U.calling g mk a) (Vm.Alike.refl U.vm) qK, qD⟩, hq ▸ va_recv hK hPc hc he, fun U hU hW => ⟨rfl, by rw [hU], by rw [hU]; exact hPc, va_K.moved hW.alike hK, hDc.weaken (fun _ _ _ _ => trivial)⟩⟩ rfl hn hsize hst (lv_room hW) hdg hcs) hS (fun q _ h => hFc q h) hFc (fun r u t H1 locs1 ht hvm hw hB hz1 hk1 hS1 => ?_)
  subst hw
  exact kk H1 locs1 (hP.kept (fun k q hk => hk1 q.1 ((hP k q hk).lt) (fun h => by
    rcases h with ⟨k', e', h'⟩ | h'
    · simp at h'
    · exact absurd ((hP k q hk).lt) (Nat.not_lt.mpr h')))) hS1
set_option maxHeartbeats 4000000 in
theorem ks_p {v : Int32} {D' : Nat → Prop} (C : cx_C p c cc nL s m args Ts own D tys A) (hM : Ct_p l y ws rm D tys As [] v) (cw : CallB R s args own index y bytes maxL ret ws rm 0 0 n ∧ (Cond.static y).before args s = true)
    (hP : va_P D vwCl w H) (hD : va_D D' w) (hS : va_S A s.heap H locs) (hn : As.length = n) (hsize : ls.size = nL) (hst : st0 = As.reverse ++ rest) (hW : (rest.map fun v => v.category).sum ≤ 8) (hdg : decode cc pc = .ok (.invokestatic index, 3)) (hcs : cells ≤ R.cells ∧ slots ≤ R.slots)
    (kk : ∀ (H1 : Heap) (locs1 : List Loc), va_P D vwCl w H1 → va_S A s.heap H1 locs1 → W p l e R s m args below meth c H1 locs1 cells slots Q (F0 m (pc + 3) ls (.int v :: rest))) : W p l e R s m args below meth c H locs cells slots Q (F0 m pc ls st0) := by
  have hK := C.2.2.2.2.2.1
  have hFc : ∀ q, va_A ([] : va_W) H.size q → A q := fun q h => by
    rcases h with ⟨k, e, h⟩ | h
    · simp at h
    · exact C.2.2.2.2.2.2 q (Nat.le_trans hS.1 h)
  refine va_calli (va_runS (As := As) (rest := rest) ⟨C.1, C.2.1, C.2.2.1, C.2.2.2.1, C.2.2.2.2.1⟩ (hM H.size) cw ⟨fun a U g mk q => by obtain ⟨q0, q1, qP, qK, qD⟩ := q; exact ⟨q0, q1, qP, va_K.moved (u := U) (U := U.calling g mk a) (Vm.Alike.refl U.vm) qK, qD⟩, fun U hU hW => ⟨rfl, by rw [hU], fun k q h => by simp at h, va_K.moved hW.alike hK, ⟨fun i j p q h => by simp at h, fun k q h => by simp at h⟩⟩⟩ rfl hn hsize hst (lv_room hW) hdg hcs) hS (fun q _ h => hFc q h) hFc (fun r u t H1 locs1 ht hvm hw hB hz1 hk1 hS1 => ?_)
  subst hw
  exact kk H1 locs1 (hP.kept (fun k q hk => hk1 q.1 ((hP k q hk).lt) (fun h => by
    rcases h with ⟨k', e', h'⟩ | h'
    · simp at h'
    · exact absurd ((hP k q hk).lt) (Nat.not_lt.mpr h')))) hS1
set_option maxHeartbeats 4000000 in
theorem kv_i {S : Type} {w1 wo : S → va_W} {F : Int32 × S} (C : cx_C p c cc nL s m args Ts own D tys A) (hM : Ct_i l y ws rm D tys (.ref b :: As) wc w1 F) (cw : CallW R s args own Cn index y bytes maxL ret ws rm 0 0 n) {q : vw_C} {fs : List Value} {ci q0 : Nat} (hc : vwCl[ci]? = some q) (hq : q.1 = Cn) (he : wc[q0]? = some (b, .inr (ci, fs)))
    (hP : va_P D vwCl w H) (hD : va_D A w) (hS : va_S A s.heap H locs) (sp : Sp w wc w1 wo) (hn : As.length = n) (hsize : ls.size = nL) (hst : st0 = As.reverse ++ .ref b :: rest) (hW : (rest.map fun v => v.category).sum ≤ 8) (hdg : decode cc pc = .ok (.invokevirtual index, 3)) (hcs : cells ≤ R.cells ∧ slots ≤ R.slots)
    (kk : ∀ (H1 : Heap) (locs1 : List Loc), va_P D vwCl (wo F.2) H1 → va_D A (wo F.2) → va_S A s.heap H1 locs1 → W p l e R s m args below meth c H1 locs1 cells slots Q (F0 m (pc + 3) ls (.int F.1 :: rest))) : W p l e R s m args below meth c H locs cells slots Q (F0 m pc ls st0) := by
  obtain ⟨isC, isR, wr, hnC, hC, hR, hnR, hdis, pm, hnP, hpm⟩ := sp
  have hPc := hP.sub (ws' := wc) isC (fm_of hC)
  have hDc := hD.sub isC hnC hC
  have hK := C.2.2.2.2.2.1
  have hFc := va_free hD hS C.2.2.2.2.2.2 isC hC
  refine va_calli (va_runV (As := As) (rest := rest) ⟨C.1, C.2.1, C.2.2.1, C.2.2.2.1, C.2.2.2.2.1⟩ (hM H.size) cw ⟨fun a U g mk q => by obtain ⟨q0, q1, qP, qK, qD⟩ := q; exact ⟨q0, q1, qP, va_K.moved (u := U) (U := U.calling g mk a) (Vm.Alike.refl U.vm) qK, qD⟩, hq ▸ va_recv hK hPc hc he, fun U hU hW => ⟨rfl, by rw [hU], by rw [hU]; exact hPc, va_K.moved hW.alike hK, hDc.weaken (fun _ _ _ _ => trivial)⟩⟩ rfl hn hsize hst (lv_room hW) hdg hcs) hS (fun q _ h => hFc q h) hFc (fun r u t H1 locs1 ht hvm hw hB hz1 hk1 hS1 => ?_)
  obtain ⟨rfl, rfl⟩ := hw
  obtain ⟨hP1, hK1, hD1⟩ := hB
  rw [ht] at hP1
  obtain ⟨hP2, hD2⟩ := va_join (wr := wr) hP hD isC isR hC hR hnR hdis hk1 hFc hP1 hD1
  exact kk H1 locs1 (hP2.sub pm (fm_of (hpm F.2))) (hD2.sub pm hnP (hpm F.2)) hS1
set_option maxHeartbeats 4000000 in
theorem kv_v {S : Type} {w1 wo : S → va_W} {F : S} (C : cx_C p c cc nL s m args Ts own D tys A) (hM : Ct_v l y ws rm D tys (.ref b :: As) wc w1 F) (cw : CallW R s args own Cn index y bytes maxL ret ws rm 0 0 n) {q : vw_C} {fs : List Value} {ci q0 : Nat} (hc : vwCl[ci]? = some q) (hq : q.1 = Cn) (he : wc[q0]? = some (b, .inr (ci, fs)))
    (hP : va_P D vwCl w H) (hD : va_D A w) (hS : va_S A s.heap H locs) (sp : Sp w wc w1 wo) (hn : As.length = n) (hsize : ls.size = nL) (hst : st0 = As.reverse ++ .ref b :: rest) (hW : (rest.map fun v => v.category).sum ≤ 8) (hdg : decode cc pc = .ok (.invokevirtual index, 3)) (hcs : cells ≤ R.cells ∧ slots ≤ R.slots)
    (kk : ∀ (H1 : Heap) (locs1 : List Loc), va_P D vwCl (wo F) H1 → va_D A (wo F) → va_S A s.heap H1 locs1 → W p l e R s m args below meth c H1 locs1 cells slots Q (F0 m (pc + 3) ls rest)) : W p l e R s m args below meth c H locs cells slots Q (F0 m pc ls st0) := by
  obtain ⟨isC, isR, wr, hnC, hC, hR, hnR, hdis, pm, hnP, hpm⟩ := sp
  have hPc := hP.sub (ws' := wc) isC (fm_of hC)
  have hDc := hD.sub isC hnC hC
  have hK := C.2.2.2.2.2.1
  have hFc := va_free hD hS C.2.2.2.2.2.2 isC hC
  refine va_callv (va_runV (As := As) (rest := rest) ⟨C.1, C.2.1, C.2.2.1, C.2.2.2.1, C.2.2.2.2.1⟩ (hM H.size) cw ⟨fun a U g mk q => by obtain ⟨q0, q1, qP, qK, qD⟩ := q; exact ⟨q0, q1, qP, va_K.moved (u := U) (U := U.calling g mk a) (Vm.Alike.refl U.vm) qK, qD⟩, hq ▸ va_recv hK hPc hc he, fun U hU hW => ⟨rfl, by rw [hU], by rw [hU]; exact hPc, va_K.moved hW.alike hK, hDc.weaken (fun _ _ _ _ => trivial)⟩⟩ rfl hn hsize hst (lv_room hW) hdg hcs) hS (fun q _ h => hFc q h) hFc (fun u t H1 locs1 ht hvm hw hB hz1 hk1 hS1 => ?_)
  subst hw
  obtain ⟨hP1, hK1, hD1⟩ := hB
  rw [ht] at hP1
  obtain ⟨hP2, hD2⟩ := va_join (wr := wr) hP hD isC isR hC hR hnR hdis hk1 hFc hP1 hD1
  exact kk H1 locs1 (hP2.sub pm (fm_of (hpm u))) (hD2.sub pm hnP (hpm u)) hS1
end BRT
end
