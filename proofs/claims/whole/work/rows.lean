section
-- ===== PART A: goes FIRST, ahead of the names: the tables' words, and 'selects' of the private methods out of them =====
/-- a private method of a class that the tables say can be made, by its rows of tables_1 -/
def lw_okq (q : MethodName × Nat) : Prop := (q.1.cls ≠ "java/lang/invoke/MethodHandle" ∧ q.1.cls ≠ "java/lang/invoke/VarHandle") ∧ Cond.instantiable q.1.cls q.2 ∈ tables_1 ∧ Cond.privateMethod q.1 ∈ tables_1 ∧ Cond.instanceMethod q.1 ∈ tables_1
theorem lw_p0 : lw_okq (⟨"WovenCalls", "find", "(I)I"⟩, 10) := ⟨⟨by decide +kernel, by decide +kernel⟩, List.mem_of_getElem? (i := 12) (by decide +kernel), List.mem_of_getElem? (i := 197) (by decide +kernel), List.mem_of_getElem? (i := 198) (by decide +kernel)⟩
theorem lw_p1 : lw_okq (⟨"WovenCalls", "findNothing", "(I)I"⟩, 10) := ⟨⟨by decide +kernel, by decide +kernel⟩, List.mem_of_getElem? (i := 12) (by decide +kernel), List.mem_of_getElem? (i := 206) (by decide +kernel), List.mem_of_getElem? (i := 207) (by decide +kernel)⟩
theorem lw_p2 : lw_okq (⟨"WovenCalls$Tape", "step", "()V"⟩, 7) := ⟨⟨by decide +kernel, by decide +kernel⟩, List.mem_of_getElem? (i := 22) (by decide +kernel), List.mem_of_getElem? (i := 278) (by decide +kernel), List.mem_of_getElem? (i := 279) (by decide +kernel)⟩
theorem lw_p3 : lw_okq (⟨"WovenCalls$Tape", "stepOverFigures", "()V"⟩, 7) := ⟨⟨by decide +kernel, by decide +kernel⟩, List.mem_of_getElem? (i := 22) (by decide +kernel), List.mem_of_getElem? (i := 286) (by decide +kernel), List.mem_of_getElem? (i := 287) (by decide +kernel)⟩
theorem lw_p4 : lw_okq (⟨"WovenCalls$Tape", "readMethods", "(LWovenCalls$Weave;)V"⟩, 7) := ⟨⟨by decide +kernel, by decide +kernel⟩, List.mem_of_getElem? (i := 22) (by decide +kernel), List.mem_of_getElem? (i := 293) (by decide +kernel), List.mem_of_getElem? (i := 294) (by decide +kernel)⟩
theorem lw_p5 : lw_okq (⟨"WovenCalls$Tape", "readMethod", "(LWovenCalls$Weave;)V"⟩, 7) := ⟨⟨by decide +kernel, by decide +kernel⟩, List.mem_of_getElem? (i := 22) (by decide +kernel), List.mem_of_getElem? (i := 297) (by decide +kernel), List.mem_of_getElem? (i := 298) (by decide +kernel)⟩
theorem lw_p6 : lw_okq (⟨"WovenCalls$Tape", "faultBy", "(I)V"⟩, 7) := ⟨⟨by decide +kernel, by decide +kernel⟩, List.mem_of_getElem? (i := 22) (by decide +kernel), List.mem_of_getElem? (i := 301) (by decide +kernel), List.mem_of_getElem? (i := 302) (by decide +kernel)⟩
theorem lw_p7 : lw_okq (⟨"WovenCalls$Tape", "readNumber", "(II)I"⟩, 7) := ⟨⟨by decide +kernel, by decide +kernel⟩, List.mem_of_getElem? (i := 22) (by decide +kernel), List.mem_of_getElem? (i := 309) (by decide +kernel), List.mem_of_getElem? (i := 310) (by decide +kernel)⟩
theorem lw_p8 : lw_okq (⟨"WovenCalls$Tape", "readStatement", "(LWovenCalls$Weave;I)V"⟩, 7) := ⟨⟨by decide +kernel, by decide +kernel⟩, List.mem_of_getElem? (i := 22) (by decide +kernel), List.mem_of_getElem? (i := 317) (by decide +kernel), List.mem_of_getElem? (i := 318) (by decide +kernel)⟩
theorem lw_p9 : lw_okq (⟨"WovenCalls$Tape", "skip", "(I)V"⟩, 7) := ⟨⟨by decide +kernel, by decide +kernel⟩, List.mem_of_getElem? (i := 22) (by decide +kernel), List.mem_of_getElem? (i := 332) (by decide +kernel), List.mem_of_getElem? (i := 333) (by decide +kernel)⟩
theorem lw_p10 : lw_okq (⟨"WovenCalls$Tape", "readAllAdvice", "(LWovenCalls$Weave;)V"⟩, 7) := ⟨⟨by decide +kernel, by decide +kernel⟩, List.mem_of_getElem? (i := 22) (by decide +kernel), List.mem_of_getElem? (i := 336) (by decide +kernel), List.mem_of_getElem? (i := 337) (by decide +kernel)⟩
theorem lw_p11 : lw_okq (⟨"WovenCalls$Tape", "readAdvice", "(LWovenCalls$Weave;)V"⟩, 7) := ⟨⟨by decide +kernel, by decide +kernel⟩, List.mem_of_getElem? (i := 22) (by decide +kernel), List.mem_of_getElem? (i := 343) (by decide +kernel), List.mem_of_getElem? (i := 344) (by decide +kernel)⟩
theorem lw_p12 : lw_okq (⟨"WovenCalls$Weave", "calledBy", "(I)I"⟩, 7) := ⟨⟨by decide +kernel, by decide +kernel⟩, List.mem_of_getElem? (i := 51) (by decide +kernel), List.mem_of_getElem? (i := 367) (by decide +kernel), List.mem_of_getElem? (i := 368) (by decide +kernel)⟩
theorem lw_p13 : lw_okq (⟨"WovenCalls", "isAdvice", "(I)Z"⟩, 10) := ⟨⟨by decide +kernel, by decide +kernel⟩, List.mem_of_getElem? (i := 12) (by decide +kernel), List.mem_of_getElem? (i := 402) (by decide +kernel), List.mem_of_getElem? (i := 403) (by decide +kernel)⟩
theorem lw_p14 : lw_okq (⟨"WovenCalls", "changeFact", "(III)I"⟩, 10) := ⟨⟨by decide +kernel, by decide +kernel⟩, List.mem_of_getElem? (i := 12) (by decide +kernel), List.mem_of_getElem? (i := 407) (by decide +kernel), List.mem_of_getElem? (i := 408) (by decide +kernel)⟩
theorem lw_p15 : lw_okq (⟨"WovenCalls$Acts", "keep", "(IIIII)V"⟩, 2) := ⟨⟨by decide +kernel, by decide +kernel⟩, List.mem_of_getElem? (i := 80) (by decide +kernel), List.mem_of_getElem? (i := 419) (by decide +kernel), List.mem_of_getElem? (i := 420) (by decide +kernel)⟩
def lw_privs_1 : List (MethodName × Nat) := [(⟨"WovenCalls", "find", "(I)I"⟩, 10), (⟨"WovenCalls", "findNothing", "(I)I"⟩, 10), (⟨"WovenCalls$Tape", "step", "()V"⟩, 7), (⟨"WovenCalls$Tape", "stepOverFigures", "()V"⟩, 7), (⟨"WovenCalls$Tape", "readMethods", "(LWovenCalls$Weave;)V"⟩, 7), (⟨"WovenCalls$Tape", "readMethod", "(LWovenCalls$Weave;)V"⟩, 7), (⟨"WovenCalls$Tape", "faultBy", "(I)V"⟩, 7), (⟨"WovenCalls$Tape", "readNumber", "(II)I"⟩, 7), (⟨"WovenCalls$Tape", "readStatement", "(LWovenCalls$Weave;I)V"⟩, 7), (⟨"WovenCalls$Tape", "skip", "(I)V"⟩, 7), (⟨"WovenCalls$Tape", "readAllAdvice", "(LWovenCalls$Weave;)V"⟩, 7), (⟨"WovenCalls$Tape", "readAdvice", "(LWovenCalls$Weave;)V"⟩, 7), (⟨"WovenCalls$Weave", "calledBy", "(I)I"⟩, 7), (⟨"WovenCalls", "isAdvice", "(I)Z"⟩, 10), (⟨"WovenCalls", "changeFact", "(III)I"⟩, 10), (⟨"WovenCalls$Acts", "keep", "(IIIII)V"⟩, 2)]
theorem lw_r1 : ∀ q ∈ lw_privs_1, lw_okq q := List.forall_mem_cons.mpr ⟨lw_p0, List.forall_mem_cons.mpr ⟨lw_p1, List.forall_mem_cons.mpr ⟨lw_p2, List.forall_mem_cons.mpr ⟨lw_p3, List.forall_mem_cons.mpr ⟨lw_p4, List.forall_mem_cons.mpr ⟨lw_p5, List.forall_mem_cons.mpr ⟨lw_p6, List.forall_mem_cons.mpr ⟨lw_p7, List.forall_mem_cons.mpr ⟨lw_p8, List.forall_mem_cons.mpr ⟨lw_p9, List.forall_mem_cons.mpr ⟨lw_p10, List.forall_mem_cons.mpr ⟨lw_p11, List.forall_mem_cons.mpr ⟨lw_p12, List.forall_mem_cons.mpr ⟨lw_p13, List.forall_mem_cons.mpr ⟨lw_p14, List.forall_mem_cons.mpr ⟨lw_p15, fun _ h => absurd h List.not_mem_nil⟩⟩⟩⟩⟩⟩⟩⟩⟩⟩⟩⟩⟩⟩⟩⟩
theorem lw_p16 : lw_okq (⟨"WovenCalls", "isMethod", "(I)Z"⟩, 10) := ⟨⟨by decide +kernel, by decide +kernel⟩, List.mem_of_getElem? (i := 12) (by decide +kernel), List.mem_of_getElem? (i := 450) (by decide +kernel), List.mem_of_getElem? (i := 451) (by decide +kernel)⟩
theorem lw_p17 : lw_okq (⟨"WovenCalls", "isStatement", "(II)Z"⟩, 10) := ⟨⟨by decide +kernel, by decide +kernel⟩, List.mem_of_getElem? (i := 12) (by decide +kernel), List.mem_of_getElem? (i := 458) (by decide +kernel), List.mem_of_getElem? (i := 459) (by decide +kernel)⟩
theorem lw_p18 : lw_okq (⟨"WovenCalls$Weave", "calledByAny", "(I)I"⟩, 7) := ⟨⟨by decide +kernel, by decide +kernel⟩, List.mem_of_getElem? (i := 51) (by decide +kernel), List.mem_of_getElem? (i := 509) (by decide +kernel), List.mem_of_getElem? (i := 510) (by decide +kernel)⟩
theorem lw_p19 : lw_okq (⟨"WovenCalls", "statementOf", "(II)I"⟩, 10) := ⟨⟨by decide +kernel, by decide +kernel⟩, List.mem_of_getElem? (i := 12) (by decide +kernel), List.mem_of_getElem? (i := 516) (by decide +kernel), List.mem_of_getElem? (i := 517) (by decide +kernel)⟩
theorem lw_p20 : lw_okq (⟨"WovenCalls$Weave", "isAbout", "(II)Z"⟩, 7) := ⟨⟨by decide +kernel, by decide +kernel⟩, List.mem_of_getElem? (i := 51) (by decide +kernel), List.mem_of_getElem? (i := 533) (by decide +kernel), List.mem_of_getElem? (i := 534) (by decide +kernel)⟩
theorem lw_p21 : lw_okq (⟨"WovenCalls$Weave", "mayBeWithin", "(II)Z"⟩, 7) := ⟨⟨by decide +kernel, by decide +kernel⟩, List.mem_of_getElem? (i := 51) (by decide +kernel), List.mem_of_getElem? (i := 539) (by decide +kernel), List.mem_of_getElem? (i := 540) (by decide +kernel)⟩
theorem lw_p22 : lw_okq (⟨"WovenCalls$Run", "enter", "(III)I"⟩, 8) := ⟨⟨by decide +kernel, by decide +kernel⟩, List.mem_of_getElem? (i := 93) (by decide +kernel), List.mem_of_getElem? (i := 555) (by decide +kernel), List.mem_of_getElem? (i := 556) (by decide +kernel)⟩
theorem lw_p23 : lw_okq (⟨"WovenCalls$Run", "goOn", "(IIIII)I"⟩, 8) := ⟨⟨by decide +kernel, by decide +kernel⟩, List.mem_of_getElem? (i := 93) (by decide +kernel), List.mem_of_getElem? (i := 563) (by decide +kernel), List.mem_of_getElem? (i := 564) (by decide +kernel)⟩
theorem lw_p24 : lw_okq (⟨"WovenCalls$Run", "isStopped", "()Z"⟩, 8) := ⟨⟨by decide +kernel, by decide +kernel⟩, List.mem_of_getElem? (i := 93) (by decide +kernel), List.mem_of_getElem? (i := 567) (by decide +kernel), List.mem_of_getElem? (i := 568) (by decide +kernel)⟩
theorem lw_p25 : lw_okq (⟨"WovenCalls$Run", "goThrough", "(III)I"⟩, 8) := ⟨⟨by decide +kernel, by decide +kernel⟩, List.mem_of_getElem? (i := 93) (by decide +kernel), List.mem_of_getElem? (i := 572) (by decide +kernel), List.mem_of_getElem? (i := 573) (by decide +kernel)⟩
theorem lw_p26 : lw_okq (⟨"WovenCalls$Run", "emit", "(I)V"⟩, 8) := ⟨⟨by decide +kernel, by decide +kernel⟩, List.mem_of_getElem? (i := 93) (by decide +kernel), List.mem_of_getElem? (i := 579) (by decide +kernel), List.mem_of_getElem? (i := 580) (by decide +kernel)⟩
theorem lw_p27 : lw_okq (⟨"WovenCalls$Run", "goAround", "(IIIII)I"⟩, 8) := ⟨⟨by decide +kernel, by decide +kernel⟩, List.mem_of_getElem? (i := 93) (by decide +kernel), List.mem_of_getElem? (i := 584) (by decide +kernel), List.mem_of_getElem? (i := 585) (by decide +kernel)⟩
theorem lw_p28 : lw_okq (⟨"WovenCalls", "lastTried", "(I)I"⟩, 10) := ⟨⟨by decide +kernel, by decide +kernel⟩, List.mem_of_getElem? (i := 12) (by decide +kernel), List.mem_of_getElem? (i := 644) (by decide +kernel), List.mem_of_getElem? (i := 645) (by decide +kernel)⟩
theorem lw_p29 : lw_okq (⟨"WovenCalls", "tryWith", "(III)V"⟩, 10) := ⟨⟨by decide +kernel, by decide +kernel⟩, List.mem_of_getElem? (i := 12) (by decide +kernel), List.mem_of_getElem? (i := 648) (by decide +kernel), List.mem_of_getElem? (i := 649) (by decide +kernel)⟩
theorem lw_p30 : lw_okq (⟨"WovenCalls$Asks", "begin", "(II)I"⟩, 3) := ⟨⟨by decide +kernel, by decide +kernel⟩, List.mem_of_getElem? (i := 124) (by decide +kernel), List.mem_of_getElem? (i := 700) (by decide +kernel), List.mem_of_getElem? (i := 701) (by decide +kernel)⟩
theorem lw_p31 : lw_okq (⟨"WovenCalls$Asks", "sizeBy", "(II)I"⟩, 3) := ⟨⟨by decide +kernel, by decide +kernel⟩, List.mem_of_getElem? (i := 124) (by decide +kernel), List.mem_of_getElem? (i := 707) (by decide +kernel), List.mem_of_getElem? (i := 708) (by decide +kernel)⟩
def lw_privs_2 : List (MethodName × Nat) := [(⟨"WovenCalls", "isMethod", "(I)Z"⟩, 10), (⟨"WovenCalls", "isStatement", "(II)Z"⟩, 10), (⟨"WovenCalls$Weave", "calledByAny", "(I)I"⟩, 7), (⟨"WovenCalls", "statementOf", "(II)I"⟩, 10), (⟨"WovenCalls$Weave", "isAbout", "(II)Z"⟩, 7), (⟨"WovenCalls$Weave", "mayBeWithin", "(II)Z"⟩, 7), (⟨"WovenCalls$Run", "enter", "(III)I"⟩, 8), (⟨"WovenCalls$Run", "goOn", "(IIIII)I"⟩, 8), (⟨"WovenCalls$Run", "isStopped", "()Z"⟩, 8), (⟨"WovenCalls$Run", "goThrough", "(III)I"⟩, 8), (⟨"WovenCalls$Run", "emit", "(I)V"⟩, 8), (⟨"WovenCalls$Run", "goAround", "(IIIII)I"⟩, 8), (⟨"WovenCalls", "lastTried", "(I)I"⟩, 10), (⟨"WovenCalls", "tryWith", "(III)V"⟩, 10), (⟨"WovenCalls$Asks", "begin", "(II)I"⟩, 3), (⟨"WovenCalls$Asks", "sizeBy", "(II)I"⟩, 3)]
theorem lw_r2 : ∀ q ∈ lw_privs_2, lw_okq q := List.forall_mem_cons.mpr ⟨lw_p16, List.forall_mem_cons.mpr ⟨lw_p17, List.forall_mem_cons.mpr ⟨lw_p18, List.forall_mem_cons.mpr ⟨lw_p19, List.forall_mem_cons.mpr ⟨lw_p20, List.forall_mem_cons.mpr ⟨lw_p21, List.forall_mem_cons.mpr ⟨lw_p22, List.forall_mem_cons.mpr ⟨lw_p23, List.forall_mem_cons.mpr ⟨lw_p24, List.forall_mem_cons.mpr ⟨lw_p25, List.forall_mem_cons.mpr ⟨lw_p26, List.forall_mem_cons.mpr ⟨lw_p27, List.forall_mem_cons.mpr ⟨lw_p28, List.forall_mem_cons.mpr ⟨lw_p29, List.forall_mem_cons.mpr ⟨lw_p30, List.forall_mem_cons.mpr ⟨lw_p31, fun _ h => absurd h List.not_mem_nil⟩⟩⟩⟩⟩⟩⟩⟩⟩⟩⟩⟩⟩⟩⟩⟩
theorem lw_p32 : lw_okq (⟨"WovenCalls$Asks", "leave", "(I)V"⟩, 3) := ⟨⟨by decide +kernel, by decide +kernel⟩, List.mem_of_getElem? (i := 124) (by decide +kernel), List.mem_of_getElem? (i := 711) (by decide +kernel), List.mem_of_getElem? (i := 712) (by decide +kernel)⟩
theorem lw_p33 : lw_okq (⟨"WovenCalls$Asks", "markBy", "(II)I"⟩, 3) := ⟨⟨by decide +kernel, by decide +kernel⟩, List.mem_of_getElem? (i := 124) (by decide +kernel), List.mem_of_getElem? (i := 717) (by decide +kernel), List.mem_of_getElem? (i := 718) (by decide +kernel)⟩
theorem lw_p34 : lw_okq (⟨"WovenCalls", "rowsThere", "()I"⟩, 10) := ⟨⟨by decide +kernel, by decide +kernel⟩, List.mem_of_getElem? (i := 12) (by decide +kernel), List.mem_of_getElem? (i := 738) (by decide +kernel), List.mem_of_getElem? (i := 739) (by decide +kernel)⟩
theorem lw_p35 : lw_okq (⟨"WovenCallsModel", "found", "(I)I"⟩, 32) := ⟨⟨by decide +kernel, by decide +kernel⟩, List.mem_of_getElem? (i := 750) (by decide +kernel), List.mem_of_getElem? (i := 866) (by decide +kernel), List.mem_of_getElem? (i := 867) (by decide +kernel)⟩
theorem lw_p36 : lw_okq (⟨"WovenCallsModel", "well", "(I)I"⟩, 32) := ⟨⟨by decide +kernel, by decide +kernel⟩, List.mem_of_getElem? (i := 750) (by decide +kernel), List.mem_of_getElem? (i := 871) (by decide +kernel), List.mem_of_getElem? (i := 872) (by decide +kernel)⟩
theorem lw_p37 : lw_okq (⟨"WovenCallsModel", "isMissing", "(I)Z"⟩, 32) := ⟨⟨by decide +kernel, by decide +kernel⟩, List.mem_of_getElem? (i := 750) (by decide +kernel), List.mem_of_getElem? (i := 879) (by decide +kernel), List.mem_of_getElem? (i := 880) (by decide +kernel)⟩
theorem lw_p38 : lw_okq (⟨"WovenCallsModel", "isPart", "(III)Z"⟩, 32) := ⟨⟨by decide +kernel, by decide +kernel⟩, List.mem_of_getElem? (i := 750) (by decide +kernel), List.mem_of_getElem? (i := 890) (by decide +kernel), List.mem_of_getElem? (i := 891) (by decide +kernel)⟩
theorem lw_p39 : lw_okq (⟨"WovenCallsModel", "advances", "()V"⟩, 32) := ⟨⟨by decide +kernel, by decide +kernel⟩, List.mem_of_getElem? (i := 750) (by decide +kernel), List.mem_of_getElem? (i := 907) (by decide +kernel), List.mem_of_getElem? (i := 908) (by decide +kernel)⟩
theorem lw_p40 : lw_okq (⟨"WovenCallsModel", "byteAt", "(I)I"⟩, 32) := ⟨⟨by decide +kernel, by decide +kernel⟩, List.mem_of_getElem? (i := 750) (by decide +kernel), List.mem_of_getElem? (i := 911) (by decide +kernel), List.mem_of_getElem? (i := 912) (by decide +kernel)⟩
theorem lw_p41 : lw_okq (⟨"WovenCallsModel", "isWell", "()Z"⟩, 32) := ⟨⟨by decide +kernel, by decide +kernel⟩, List.mem_of_getElem? (i := 750) (by decide +kernel), List.mem_of_getElem? (i := 915) (by decide +kernel), List.mem_of_getElem? (i := 916) (by decide +kernel)⟩
theorem lw_p42 : lw_okq (⟨"WovenCallsModel", "readsMethod", "()V"⟩, 32) := ⟨⟨by decide +kernel, by decide +kernel⟩, List.mem_of_getElem? (i := 750) (by decide +kernel), List.mem_of_getElem? (i := 919) (by decide +kernel), List.mem_of_getElem? (i := 920) (by decide +kernel)⟩
theorem lw_p43 : lw_okq (⟨"WovenCallsModel", "takes", "(ZI)I"⟩, 32) := ⟨⟨by decide +kernel, by decide +kernel⟩, List.mem_of_getElem? (i := 750) (by decide +kernel), List.mem_of_getElem? (i := 923) (by decide +kernel), List.mem_of_getElem? (i := 924) (by decide +kernel)⟩
theorem lw_p44 : lw_okq (⟨"WovenCallsModel", "figure", "(II)I"⟩, 32) := ⟨⟨by decide +kernel, by decide +kernel⟩, List.mem_of_getElem? (i := 750) (by decide +kernel), List.mem_of_getElem? (i := 927) (by decide +kernel), List.mem_of_getElem? (i := 928) (by decide +kernel)⟩
theorem lw_p45 : lw_okq (⟨"WovenCallsModel", "must", "(ZI)V"⟩, 32) := ⟨⟨by decide +kernel, by decide +kernel⟩, List.mem_of_getElem? (i := 750) (by decide +kernel), List.mem_of_getElem? (i := 934) (by decide +kernel), List.mem_of_getElem? (i := 935) (by decide +kernel)⟩
theorem lw_p46 : lw_okq (⟨"WovenCallsModel", "readsAdvice", "()V"⟩, 32) := ⟨⟨by decide +kernel, by decide +kernel⟩, List.mem_of_getElem? (i := 750) (by decide +kernel), List.mem_of_getElem? (i := 941) (by decide +kernel), List.mem_of_getElem? (i := 942) (by decide +kernel)⟩
theorem lw_p47 : lw_okq (⟨"WovenCallsModel", "behind", "(II)I"⟩, 32) := ⟨⟨by decide +kernel, by decide +kernel⟩, List.mem_of_getElem? (i := 750) (by decide +kernel), List.mem_of_getElem? (i := 945) (by decide +kernel), List.mem_of_getElem? (i := 946) (by decide +kernel)⟩
def lw_privs_3 : List (MethodName × Nat) := [(⟨"WovenCalls$Asks", "leave", "(I)V"⟩, 3), (⟨"WovenCalls$Asks", "markBy", "(II)I"⟩, 3), (⟨"WovenCalls", "rowsThere", "()I"⟩, 10), (⟨"WovenCallsModel", "found", "(I)I"⟩, 32), (⟨"WovenCallsModel", "well", "(I)I"⟩, 32), (⟨"WovenCallsModel", "isMissing", "(I)Z"⟩, 32), (⟨"WovenCallsModel", "isPart", "(III)Z"⟩, 32), (⟨"WovenCallsModel", "advances", "()V"⟩, 32), (⟨"WovenCallsModel", "byteAt", "(I)I"⟩, 32), (⟨"WovenCallsModel", "isWell", "()Z"⟩, 32), (⟨"WovenCallsModel", "readsMethod", "()V"⟩, 32), (⟨"WovenCallsModel", "takes", "(ZI)I"⟩, 32), (⟨"WovenCallsModel", "figure", "(II)I"⟩, 32), (⟨"WovenCallsModel", "must", "(ZI)V"⟩, 32), (⟨"WovenCallsModel", "readsAdvice", "()V"⟩, 32), (⟨"WovenCallsModel", "behind", "(II)I"⟩, 32)]
theorem lw_r3 : ∀ q ∈ lw_privs_3, lw_okq q := List.forall_mem_cons.mpr ⟨lw_p32, List.forall_mem_cons.mpr ⟨lw_p33, List.forall_mem_cons.mpr ⟨lw_p34, List.forall_mem_cons.mpr ⟨lw_p35, List.forall_mem_cons.mpr ⟨lw_p36, List.forall_mem_cons.mpr ⟨lw_p37, List.forall_mem_cons.mpr ⟨lw_p38, List.forall_mem_cons.mpr ⟨lw_p39, List.forall_mem_cons.mpr ⟨lw_p40, List.forall_mem_cons.mpr ⟨lw_p41, List.forall_mem_cons.mpr ⟨lw_p42, List.forall_mem_cons.mpr ⟨lw_p43, List.forall_mem_cons.mpr ⟨lw_p44, List.forall_mem_cons.mpr ⟨lw_p45, List.forall_mem_cons.mpr ⟨lw_p46, List.forall_mem_cons.mpr ⟨lw_p47, fun _ h => absurd h List.not_mem_nil⟩⟩⟩⟩⟩⟩⟩⟩⟩⟩⟩⟩⟩⟩⟩⟩
theorem lw_p48 : lw_okq (⟨"WovenCallsModel", "isAdvice", "(I)Z"⟩, 32) := ⟨⟨by decide +kernel, by decide +kernel⟩, List.mem_of_getElem? (i := 750) (by decide +kernel), List.mem_of_getElem? (i := 964) (by decide +kernel), List.mem_of_getElem? (i := 965) (by decide +kernel)⟩
theorem lw_p49 : lw_okq (⟨"WovenCallsModel", "becomes", "(II)I"⟩, 32) := ⟨⟨by decide +kernel, by decide +kernel⟩, List.mem_of_getElem? (i := 750) (by decide +kernel), List.mem_of_getElem? (i := 968) (by decide +kernel), List.mem_of_getElem? (i := 969) (by decide +kernel)⟩
theorem lw_p50 : lw_okq (⟨"WovenCallsModel", "notes", "()V"⟩, 32) := ⟨⟨by decide +kernel, by decide +kernel⟩, List.mem_of_getElem? (i := 750) (by decide +kernel), List.mem_of_getElem? (i := 972) (by decide +kernel), List.mem_of_getElem? (i := 973) (by decide +kernel)⟩
theorem lw_p51 : lw_okq (⟨"WovenCallsModel", "isMethod", "(I)Z"⟩, 32) := ⟨⟨by decide +kernel, by decide +kernel⟩, List.mem_of_getElem? (i := 750) (by decide +kernel), List.mem_of_getElem? (i := 992) (by decide +kernel), List.mem_of_getElem? (i := 993) (by decide +kernel)⟩
theorem lw_p52 : lw_okq (⟨"WovenCallsModel", "runs", "([III)V"⟩, 32) := ⟨⟨by decide +kernel, by decide +kernel⟩, List.mem_of_getElem? (i := 750) (by decide +kernel), List.mem_of_getElem? (i := 1038) (by decide +kernel), List.mem_of_getElem? (i := 1039) (by decide +kernel)⟩
theorem lw_p53 : lw_okq (⟨"WovenCallsModel", "callsBy", "([III)V"⟩, 32) := ⟨⟨by decide +kernel, by decide +kernel⟩, List.mem_of_getElem? (i := 750) (by decide +kernel), List.mem_of_getElem? (i := 1042) (by decide +kernel), List.mem_of_getElem? (i := 1043) (by decide +kernel)⟩
theorem lw_p54 : lw_okq (⟨"WovenCallsModel", "pushes", "(IIIII)V"⟩, 32) := ⟨⟨by decide +kernel, by decide +kernel⟩, List.mem_of_getElem? (i := 750) (by decide +kernel), List.mem_of_getElem? (i := 1046) (by decide +kernel), List.mem_of_getElem? (i := 1047) (by decide +kernel)⟩
theorem lw_p55 : lw_okq (⟨"WovenCallsModel", "goesOn", "([IIIII)V"⟩, 32) := ⟨⟨by decide +kernel, by decide +kernel⟩, List.mem_of_getElem? (i := 750) (by decide +kernel), List.mem_of_getElem? (i := 1050) (by decide +kernel), List.mem_of_getElem? (i := 1051) (by decide +kernel)⟩
theorem lw_p56 : lw_okq (⟨"WovenCallsModel", "ends", "(II)V"⟩, 32) := ⟨⟨by decide +kernel, by decide +kernel⟩, List.mem_of_getElem? (i := 750) (by decide +kernel), List.mem_of_getElem? (i := 1054) (by decide +kernel), List.mem_of_getElem? (i := 1055) (by decide +kernel)⟩
theorem lw_p57 : lw_okq (⟨"WovenCallsModel", "abouts", "([IIZ)V"⟩, 32) := ⟨⟨by decide +kernel, by decide +kernel⟩, List.mem_of_getElem? (i := 750) (by decide +kernel), List.mem_of_getElem? (i := 1058) (by decide +kernel), List.mem_of_getElem? (i := 1059) (by decide +kernel)⟩
theorem lw_p58 : lw_okq (⟨"WovenCallsModel", "emits", "(I)V"⟩, 32) := ⟨⟨by decide +kernel, by decide +kernel⟩, List.mem_of_getElem? (i := 750) (by decide +kernel), List.mem_of_getElem? (i := 1062) (by decide +kernel), List.mem_of_getElem? (i := 1063) (by decide +kernel)⟩
theorem lw_p59 : lw_okq (⟨"WovenCallsModel", "bodies", "([IIZ)V"⟩, 32) := ⟨⟨by decide +kernel, by decide +kernel⟩, List.mem_of_getElem? (i := 750) (by decide +kernel), List.mem_of_getElem? (i := 1066) (by decide +kernel), List.mem_of_getElem? (i := 1067) (by decide +kernel)⟩
theorem lw_p60 : lw_okq (⟨"WovenCallsModel", "isSeen", "(III)Z"⟩, 32) := ⟨⟨by decide +kernel, by decide +kernel⟩, List.mem_of_getElem? (i := 750) (by decide +kernel), List.mem_of_getElem? (i := 1082) (by decide +kernel), List.mem_of_getElem? (i := 1083) (by decide +kernel)⟩
theorem lw_p61 : lw_okq (⟨"WovenCallsModel", "isWeave", "()Z"⟩, 32) := ⟨⟨by decide +kernel, by decide +kernel⟩, List.mem_of_getElem? (i := 750) (by decide +kernel), List.mem_of_getElem? (i := 1090) (by decide +kernel), List.mem_of_getElem? (i := 1091) (by decide +kernel)⟩
theorem lw_p62 : lw_okq (⟨"WovenCallsModel", "kindIn", "(I)I"⟩, 32) := ⟨⟨by decide +kernel, by decide +kernel⟩, List.mem_of_getElem? (i := 750) (by decide +kernel), List.mem_of_getElem? (i := 1111) (by decide +kernel), List.mem_of_getElem? (i := 1112) (by decide +kernel)⟩
theorem lw_p63 : lw_okq (⟨"WovenCallsModel", "aroundSize", "(I)I"⟩, 32) := ⟨⟨by decide +kernel, by decide +kernel⟩, List.mem_of_getElem? (i := 750) (by decide +kernel), List.mem_of_getElem? (i := 1123) (by decide +kernel), List.mem_of_getElem? (i := 1124) (by decide +kernel)⟩
def lw_privs_4 : List (MethodName × Nat) := [(⟨"WovenCallsModel", "isAdvice", "(I)Z"⟩, 32), (⟨"WovenCallsModel", "becomes", "(II)I"⟩, 32), (⟨"WovenCallsModel", "notes", "()V"⟩, 32), (⟨"WovenCallsModel", "isMethod", "(I)Z"⟩, 32), (⟨"WovenCallsModel", "runs", "([III)V"⟩, 32), (⟨"WovenCallsModel", "callsBy", "([III)V"⟩, 32), (⟨"WovenCallsModel", "pushes", "(IIIII)V"⟩, 32), (⟨"WovenCallsModel", "goesOn", "([IIIII)V"⟩, 32), (⟨"WovenCallsModel", "ends", "(II)V"⟩, 32), (⟨"WovenCallsModel", "abouts", "([IIZ)V"⟩, 32), (⟨"WovenCallsModel", "emits", "(I)V"⟩, 32), (⟨"WovenCallsModel", "bodies", "([IIZ)V"⟩, 32), (⟨"WovenCallsModel", "isSeen", "(III)Z"⟩, 32), (⟨"WovenCallsModel", "isWeave", "()Z"⟩, 32), (⟨"WovenCallsModel", "kindIn", "(I)I"⟩, 32), (⟨"WovenCallsModel", "aroundSize", "(I)I"⟩, 32)]
theorem lw_r4 : ∀ q ∈ lw_privs_4, lw_okq q := List.forall_mem_cons.mpr ⟨lw_p48, List.forall_mem_cons.mpr ⟨lw_p49, List.forall_mem_cons.mpr ⟨lw_p50, List.forall_mem_cons.mpr ⟨lw_p51, List.forall_mem_cons.mpr ⟨lw_p52, List.forall_mem_cons.mpr ⟨lw_p53, List.forall_mem_cons.mpr ⟨lw_p54, List.forall_mem_cons.mpr ⟨lw_p55, List.forall_mem_cons.mpr ⟨lw_p56, List.forall_mem_cons.mpr ⟨lw_p57, List.forall_mem_cons.mpr ⟨lw_p58, List.forall_mem_cons.mpr ⟨lw_p59, List.forall_mem_cons.mpr ⟨lw_p60, List.forall_mem_cons.mpr ⟨lw_p61, List.forall_mem_cons.mpr ⟨lw_p62, List.forall_mem_cons.mpr ⟨lw_p63, fun _ h => absurd h List.not_mem_nil⟩⟩⟩⟩⟩⟩⟩⟩⟩⟩⟩⟩⟩⟩⟩⟩
theorem lw_p64 : lw_okq (⟨"WovenCallsModel", "begins", "(I)V"⟩, 32) := ⟨⟨by decide +kernel, by decide +kernel⟩, List.mem_of_getElem? (i := 750) (by decide +kernel), List.mem_of_getElem? (i := 1127) (by decide +kernel), List.mem_of_getElem? (i := 1128) (by decide +kernel)⟩
theorem lw_p65 : lw_okq (⟨"WovenCallsModel", "afterSize", "(I)I"⟩, 32) := ⟨⟨by decide +kernel, by decide +kernel⟩, List.mem_of_getElem? (i := 750) (by decide +kernel), List.mem_of_getElem? (i := 1131) (by decide +kernel), List.mem_of_getElem? (i := 1132) (by decide +kernel)⟩
theorem lw_p66 : lw_okq (⟨"WovenCallsModel", "afterMark", "(I)I"⟩, 32) := ⟨⟨by decide +kernel, by decide +kernel⟩, List.mem_of_getElem? (i := 750) (by decide +kernel), List.mem_of_getElem? (i := 1135) (by decide +kernel), List.mem_of_getElem? (i := 1136) (by decide +kernel)⟩
theorem lw_p67 : lw_okq (⟨"WovenCallsModel", "aboutOf", "(I)I"⟩, 32) := ⟨⟨by decide +kernel, by decide +kernel⟩, List.mem_of_getElem? (i := 750) (by decide +kernel), List.mem_of_getElem? (i := 1139) (by decide +kernel), List.mem_of_getElem? (i := 1140) (by decide +kernel)⟩
theorem lw_p68 : lw_okq (⟨"WovenCallsModel", "aroundMark", "(I)I"⟩, 32) := ⟨⟨by decide +kernel, by decide +kernel⟩, List.mem_of_getElem? (i := 750) (by decide +kernel), List.mem_of_getElem? (i := 1143) (by decide +kernel), List.mem_of_getElem? (i := 1144) (by decide +kernel)⟩
def lw_privs_5 : List (MethodName × Nat) := [(⟨"WovenCallsModel", "begins", "(I)V"⟩, 32), (⟨"WovenCallsModel", "afterSize", "(I)I"⟩, 32), (⟨"WovenCallsModel", "afterMark", "(I)I"⟩, 32), (⟨"WovenCallsModel", "aboutOf", "(I)I"⟩, 32), (⟨"WovenCallsModel", "aroundMark", "(I)I"⟩, 32)]
theorem lw_r5 : ∀ q ∈ lw_privs_5, lw_okq q := List.forall_mem_cons.mpr ⟨lw_p64, List.forall_mem_cons.mpr ⟨lw_p65, List.forall_mem_cons.mpr ⟨lw_p66, List.forall_mem_cons.mpr ⟨lw_p67, List.forall_mem_cons.mpr ⟨lw_p68, fun _ h => absurd h List.not_mem_nil⟩⟩⟩⟩⟩
def lw_privs : List (MethodName × Nat) := lw_privs_1 ++ (lw_privs_2 ++ (lw_privs_3 ++ (lw_privs_4 ++ (lw_privs_5))))
def lw_tbl : List Cond := k2_sels lw_privs ++ tables_1
theorem lw_privs_ok : ∀ q ∈ lw_privs, lw_okq q := by
  show ∀ q ∈ lw_privs_1 ++ (lw_privs_2 ++ (lw_privs_3 ++ (lw_privs_4 ++ (lw_privs_5)))), lw_okq q
  exact List.forall_mem_append.mpr ⟨lw_r1, List.forall_mem_append.mpr ⟨lw_r2, List.forall_mem_append.mpr ⟨lw_r3, List.forall_mem_append.mpr ⟨lw_r4, lw_r5⟩⟩⟩⟩
end
section
/-! ===== BEGIN words of one list among another's, by their places ===== -/
theorem goodIn_r {big : List Cond} (ws : List Cond) (ps : List Nat) (hp : ws = ps.filterMap (fun i => big[i]?)) (h : ws.all goodWord = true) : GoodIn big ws := by
  intro w hw
  have h1 := List.all_eq_true.mp h w hw
  rw [hp] at hw
  obtain ⟨i, -, hi⟩ := List.mem_filterMap.mp hw
  have hm : w ∈ big := by first | exact List.mem_of_getElem? hi | exact List.getElem?_mem hi
  exact ⟨hm, good_of_word h1⟩
theorem goodIn_app {big a b : List Cond} (ha : GoodIn big a) (hb : GoodIn big b) : GoodIn big (a ++ b) := fun w h => (List.mem_append.mp h).elim (ha w) (hb w)
theorem goodIn_ca {big a b : List Cond} {c : Cond} (ha : GoodIn big (c :: a)) (hb : GoodIn big b) : GoodIn big (c :: (a ++ b)) := fun w h => (List.mem_cons.mp h).elim (fun e => ha w (List.mem_cons.mpr (Or.inl e))) (fun h => (List.mem_append.mp h).elim (fun h => ha w (List.mem_cons.mpr (Or.inr h))) (hb w))
theorem goodIn_sub {big ws : List Cond} (hm : ∀ w ∈ ws, w ∈ big) (h : ws.all goodWord = true) : GoodIn big ws := fun w hw => ⟨hm w hw, good_of_word (List.all_eq_true.mp h w hw)⟩
/-! ===== END ===== -/

def RX0 : String := "WovenCalls$Acts"
def TX0 : u_T := fun k => match k with
  | 0 => ("WovenCalls$Acts", "kept", "[I", true)
  | _ => ("WovenCalls$Acts", "size", "I", false)
def tyX0 : Nat → FieldType := fun k => match k with
  | 0 => .array .int
  | _ => .int
abbrev wsX00 : List Cond := u_ws RX0 TX0 2
theorem nmX0 : ∀ a, a < 2 → ∀ b, b < 2 → a ≠ b → (TX0 a).2.1 ≠ (TX0 b).2.1 := by decide +kernel
theorem tyX0_ok : ∀ k, k < 2 → parseFieldDescriptor (TX0 k).2.2.1 = some (tyX0 k) := by decide +kernel
abbrev cX0_init : ByteArray := prog_2_method_1_code
def yX0_init : MethodName := ⟨RX0, "<init>", "()V"⟩
abbrev cX0_size : ByteArray := prog_2_method_2_code
def yX0_size : MethodName := ⟨RX0, "size", "()I"⟩
abbrev cX0_forget : ByteArray := prog_2_method_3_code
def yX0_forget : MethodName := ⟨RX0, "forget", "()V"⟩
abbrev cX0_keepFact : ByteArray := prog_2_method_4_code
def yX0_keepFact : MethodName := ⟨RX0, "keepFact", "(III)V"⟩
abbrev cX0_keepExchange : ByteArray := prog_2_method_5_code
def yX0_keepExchange : MethodName := ⟨RX0, "keepExchange", "(II)V"⟩
abbrev cX0_keepStatement : ByteArray := prog_2_method_6_code
def yX0_keepStatement : MethodName := ⟨RX0, "keepStatement", "(IIII)V"⟩
abbrev cX0_keepClass : ByteArray := prog_2_method_7_code
def yX0_keepClass : MethodName := ⟨RX0, "keepClass", "(II)V"⟩
abbrev cX0_keep : ByteArray := prog_2_method_8_code
def yX0_keep : MethodName := ⟨RX0, "keep", "(IIIII)V"⟩
abbrev cX0_takeBack : ByteArray := prog_2_method_9_code
def yX0_takeBack : MethodName := ⟨RX0, "takeBack", "(LWovenCalls$Weave;)V"⟩
def RX1 : String := "WovenCalls$Asks"
def TX1 : u_T := fun k => match k with
  | 0 => ("WovenCalls$Asks", "trace", "[I", true)
  | 1 => ("WovenCalls$Asks", "weave", "LWovenCalls$Weave;", true)
  | _ => ("WovenCalls$Asks", "size", "I", false)
def tyX1 : Nat → FieldType := fun k => match k with
  | 0 => .array .int
  | 1 => .object "WovenCalls$Weave"
  | _ => .int
abbrev wsX10 : List Cond := u_ws RX1 TX1 3
theorem nmX1 : ∀ a, a < 3 → ∀ b, b < 3 → a ≠ b → (TX1 a).2.1 ≠ (TX1 b).2.1 := by decide +kernel
theorem tyX1_ok : ∀ k, k < 3 → parseFieldDescriptor (TX1 k).2.2.1 = some (tyX1 k) := by decide +kernel
abbrev cX1_init : ByteArray := prog_3_method_1_code
def yX1_init : MethodName := ⟨RX1, "<init>", "(LWovenCalls$Weave;)V"⟩
abbrev cX1_traced : ByteArray := prog_3_method_2_code
def yX1_traced : MethodName := ⟨RX1, "traced", "(I)I"⟩
abbrev cX1_answer : ByteArray := prog_3_method_3_code
def yX1_answer : MethodName := ⟨RX1, "answer", "(II)I"⟩
abbrev cX1_begin : ByteArray := prog_3_method_4_code
def yX1_begin : MethodName := ⟨RX1, "begin", "(II)I"⟩
abbrev cX1_leave : ByteArray := prog_3_method_5_code
def yX1_leave : MethodName := ⟨RX1, "leave", "(I)V"⟩
abbrev cX1_sizeBy : ByteArray := prog_3_method_6_code
def yX1_sizeBy : MethodName := ⟨RX1, "sizeBy", "(II)I"⟩
abbrev cX1_markBy : ByteArray := prog_3_method_7_code
def yX1_markBy : MethodName := ⟨RX1, "markBy", "(II)I"⟩
def RX2 : String := "WovenCalls$Row"
def TX2 : u_T := fun k => match k with
  | 0 => ("WovenCalls$Row", "items", "[I", true)
  | 1 => ("WovenCalls$Row", "lane", "I", false)
  | _ => ("WovenCalls$Row", "size", "I", false)
def tyX2 : Nat → FieldType := fun k => match k with
  | 0 => .array .int
  | 1 => .int
  | _ => .int
abbrev wsX20 : List Cond := u_ws RX2 TX2 3
theorem nmX2 : ∀ a, a < 3 → ∀ b, b < 3 → a ≠ b → (TX2 a).2.1 ≠ (TX2 b).2.1 := by decide +kernel
theorem tyX2_ok : ∀ k, k < 3 → parseFieldDescriptor (TX2 k).2.2.1 = some (tyX2 k) := by decide +kernel
abbrev cX2_init : ByteArray := prog_4_method_1_code
def yX2_init : MethodName := ⟨RX2, "<init>", "()V"⟩
abbrev cX2_isMissing : ByteArray := prog_4_method_2_code
def yX2_isMissing : MethodName := ⟨RX2, "isMissing", "()Z"⟩
abbrev cX2_size : ByteArray := prog_4_method_3_code
def yX2_size : MethodName := ⟨RX2, "size", "()I"⟩
abbrev cX2_lane : ByteArray := prog_4_method_4_code
def yX2_lane : MethodName := ⟨RX2, "lane", "()I"⟩
abbrev cX2_item : ByteArray := prog_4_method_5_code
def yX2_item : MethodName := ⟨RX2, "item", "(I)I"⟩
abbrev cX2_make : ByteArray := prog_4_method_6_code
def yX2_make : MethodName := ⟨RX2, "make", "(II)V"⟩
abbrev cX2_lose : ByteArray := prog_4_method_7_code
def yX2_lose : MethodName := ⟨RX2, "lose", "()V"⟩
abbrev cX2_put : ByteArray := prog_4_method_8_code
def yX2_put : MethodName := ⟨RX2, "put", "(II)I"⟩
abbrev cX2_holds : ByteArray := prog_4_method_9_code
def yX2_holds : MethodName := ⟨RX2, "holds", "(II)Z"⟩
abbrev cX2_take : ByteArray := prog_4_method_10_code
def yX2_take : MethodName := ⟨RX2, "take", "(LWovenCalls$Row;III)V"⟩
def RX3 : String := "WovenCalls$Run"
def TX3 : u_T := fun k => match k with
  | 0 => ("WovenCalls$Run", "emitted", "[I", true)
  | 1 => ("WovenCalls$Run", "callsOf", "[I", true)
  | 2 => ("WovenCalls$Run", "weave", "LWovenCalls$Weave;", false)
  | 3 => ("WovenCalls$Run", "size", "I", false)
  | 4 => ("WovenCalls$Run", "calls", "I", false)
  | 5 => ("WovenCalls$Run", "failure", "I", false)
  | 6 => ("WovenCalls$Run", "returned", "I", false)
  | _ => ("WovenCalls$Run", "full", "Z", false)
def tyX3 : Nat → FieldType := fun k => match k with
  | 0 => .array .int
  | 1 => .array .int
  | 2 => .object "WovenCalls$Weave"
  | 3 => .int
  | 4 => .int
  | 5 => .int
  | 6 => .int
  | _ => .boolean
abbrev wsX30 : List Cond := u_ws RX3 TX3 8
theorem nmX3 : ∀ a, a < 8 → ∀ b, b < 8 → a ≠ b → (TX3 a).2.1 ≠ (TX3 b).2.1 := by decide +kernel
theorem tyX3_ok : ∀ k, k < 8 → parseFieldDescriptor (TX3 k).2.2.1 = some (tyX3 k) := by decide +kernel
abbrev cX3_init : ByteArray := prog_5_method_1_code
def yX3_init : MethodName := ⟨RX3, "<init>", "(LWovenCalls$Weave;)V"⟩
abbrev cX3_make : ByteArray := prog_5_method_2_code
def yX3_make : MethodName := ⟨RX3, "make", "(LWovenCalls$Weave;II)V"⟩
abbrev cX3_isFull : ByteArray := prog_5_method_3_code
def yX3_isFull : MethodName := ⟨RX3, "isFull", "()Z"⟩
abbrev cX3_fails : ByteArray := prog_5_method_4_code
def yX3_fails : MethodName := ⟨RX3, "fails", "()Z"⟩
abbrev cX3_size : ByteArray := prog_5_method_5_code
def yX3_size : MethodName := ⟨RX3, "size", "()I"⟩
abbrev cX3_calls : ByteArray := prog_5_method_6_code
def yX3_calls : MethodName := ⟨RX3, "calls", "()I"⟩
abbrev cX3_failure : ByteArray := prog_5_method_7_code
def yX3_failure : MethodName := ⟨RX3, "failure", "()I"⟩
abbrev cX3_returned : ByteArray := prog_5_method_8_code
def yX3_returned : MethodName := ⟨RX3, "returned", "()I"⟩
abbrev cX3_number : ByteArray := prog_5_method_9_code
def yX3_number : MethodName := ⟨RX3, "number", "(I)I"⟩
abbrev cX3_tests : ByteArray := prog_5_method_10_code
def yX3_tests : MethodName := ⟨RX3, "tests", "()I"⟩
abbrev cX3_endsAs : ByteArray := prog_5_method_11_code
def yX3_endsAs : MethodName := ⟨RX3, "endsAs", "(III)Z"⟩
abbrev cX3_beginsWith : ByteArray := prog_5_method_12_code
def yX3_beginsWith : MethodName := ⟨RX3, "beginsWith", "(LWovenCalls$Row;)Z"⟩
abbrev cX3_isStopped : ByteArray := prog_5_method_13_code
def yX3_isStopped : MethodName := ⟨RX3, "isStopped", "()Z"⟩
abbrev cX3_emit : ByteArray := prog_5_method_14_code
def yX3_emit : MethodName := ⟨RX3, "emit", "(I)V"⟩
abbrev cX3_enter : ByteArray := prog_5_method_15_code
def yX3_enter : MethodName := ⟨RX3, "enter", "(III)I"⟩
abbrev cX3_goOn : ByteArray := prog_5_method_16_code
def yX3_goOn : MethodName := ⟨RX3, "goOn", "(IIIII)I"⟩
abbrev cX3_goAround : ByteArray := prog_5_method_17_code
def yX3_goAround : MethodName := ⟨RX3, "goAround", "(IIIII)I"⟩
abbrev cX3_goThrough : ByteArray := prog_5_method_18_code
def yX3_goThrough : MethodName := ⟨RX3, "goThrough", "(III)I"⟩
def RX4 : String := "WovenCalls$Tape"
def TX4 : u_T := fun k => match k with
  | 0 => ("WovenCalls$Tape", "bytes", "[I", true)
  | 1 => ("WovenCalls$Tape", "size", "I", false)
  | 2 => ("WovenCalls$Tape", "start", "I", false)
  | 3 => ("WovenCalls$Tape", "next", "I", false)
  | 4 => ("WovenCalls$Tape", "token", "I", false)
  | 5 => ("WovenCalls$Tape", "value", "I", false)
  | _ => ("WovenCalls$Tape", "fault", "I", false)
def tyX4 : Nat → FieldType := fun k => match k with
  | 0 => .array .int
  | 1 => .int
  | 2 => .int
  | 3 => .int
  | 4 => .int
  | 5 => .int
  | _ => .int
abbrev wsX40 : List Cond := u_ws RX4 TX4 7
theorem nmX4 : ∀ a, a < 7 → ∀ b, b < 7 → a ≠ b → (TX4 a).2.1 ≠ (TX4 b).2.1 := by decide +kernel
theorem tyX4_ok : ∀ k, k < 7 → parseFieldDescriptor (TX4 k).2.2.1 = some (tyX4 k) := by decide +kernel
abbrev cX4_init : ByteArray := prog_6_method_1_code
def yX4_init : MethodName := ⟨RX4, "<init>", "()V"⟩
abbrev cX4_size : ByteArray := prog_6_method_2_code
def yX4_size : MethodName := ⟨RX4, "size", "()I"⟩
abbrev cX4_faultPlace : ByteArray := prog_6_method_3_code
def yX4_faultPlace : MethodName := ⟨RX4, "faultPlace", "()I"⟩
abbrev cX4_add : ByteArray := prog_6_method_4_code
def yX4_add : MethodName := ⟨RX4, "add", "(I)Z"⟩
abbrev cX4_read : ByteArray := prog_6_method_5_code
def yX4_read : MethodName := ⟨RX4, "read", "(LWovenCalls$Weave;)I"⟩
abbrev cX4_readMethods : ByteArray := prog_6_method_6_code
def yX4_readMethods : MethodName := ⟨RX4, "readMethods", "(LWovenCalls$Weave;)V"⟩
abbrev cX4_readMethod : ByteArray := prog_6_method_7_code
def yX4_readMethod : MethodName := ⟨RX4, "readMethod", "(LWovenCalls$Weave;)V"⟩
abbrev cX4_readStatement : ByteArray := prog_6_method_8_code
def yX4_readStatement : MethodName := ⟨RX4, "readStatement", "(LWovenCalls$Weave;I)V"⟩
abbrev cX4_readAllAdvice : ByteArray := prog_6_method_9_code
def yX4_readAllAdvice : MethodName := ⟨RX4, "readAllAdvice", "(LWovenCalls$Weave;)V"⟩
abbrev cX4_readAdvice : ByteArray := prog_6_method_10_code
def yX4_readAdvice : MethodName := ⟨RX4, "readAdvice", "(LWovenCalls$Weave;)V"⟩
abbrev cX4_readNumber : ByteArray := prog_6_method_11_code
def yX4_readNumber : MethodName := ⟨RX4, "readNumber", "(II)I"⟩
abbrev cX4_skip : ByteArray := prog_6_method_12_code
def yX4_skip : MethodName := ⟨RX4, "skip", "(I)V"⟩
abbrev cX4_faultBy : ByteArray := prog_6_method_13_code
def yX4_faultBy : MethodName := ⟨RX4, "faultBy", "(I)V"⟩
abbrev cX4_step : ByteArray := prog_6_method_14_code
def yX4_step : MethodName := ⟨RX4, "step", "()V"⟩
abbrev cX4_stepOverFigures : ByteArray := prog_6_method_15_code
def yX4_stepOverFigures : MethodName := ⟨RX4, "stepOverFigures", "()V"⟩
abbrev cX4_isFigure : ByteArray := prog_6_method_16_code
def yX4_isFigure : MethodName := ⟨RX4, "isFigure", "(I)Z"⟩
abbrev cX4_isSign : ByteArray := prog_6_method_17_code
def yX4_isSign : MethodName := ⟨RX4, "isSign", "(I)Z"⟩
abbrev cX4_sortOf : ByteArray := prog_6_method_18_code
def yX4_sortOf : MethodName := ⟨RX4, "sortOf", "(I)I"⟩
abbrev cX4_kindOf : ByteArray := prog_6_method_19_code
def yX4_kindOf : MethodName := ⟨RX4, "kindOf", "(I)I"⟩
def RX5 : String := "WovenCalls$Weave"
def TX5 : u_T := fun k => match k with
  | 0 => ("WovenCalls$Weave", "classes", "[I", true)
  | 1 => ("WovenCalls$Weave", "lengths", "[I", true)
  | 2 => ("WovenCalls$Weave", "sorts", "[I", true)
  | 3 => ("WovenCalls$Weave", "operands", "[I", true)
  | 4 => ("WovenCalls$Weave", "facts", "[I", true)
  | 5 => ("WovenCalls$Weave", "methods", "I", false)
  | _ => ("WovenCalls$Weave", "adviceCount", "I", false)
def tyX5 : Nat → FieldType := fun k => match k with
  | 0 => .array .int
  | 1 => .array .int
  | 2 => .array .int
  | 3 => .array .int
  | 4 => .array .int
  | 5 => .int
  | _ => .int
abbrev wsX50 : List Cond := u_ws RX5 TX5 7
theorem nmX5 : ∀ a, a < 7 → ∀ b, b < 7 → a ≠ b → (TX5 a).2.1 ≠ (TX5 b).2.1 := by decide +kernel
theorem tyX5_ok : ∀ k, k < 7 → parseFieldDescriptor (TX5 k).2.2.1 = some (tyX5 k) := by decide +kernel
abbrev cX5_init : ByteArray := prog_7_method_1_code
def yX5_init : MethodName := ⟨RX5, "<init>", "()V"⟩
abbrev cX5_clear : ByteArray := prog_7_method_2_code
def yX5_clear : MethodName := ⟨RX5, "clear", "()V"⟩
abbrev cX5_take : ByteArray := prog_7_method_3_code
def yX5_take : MethodName := ⟨RX5, "take", "(LWovenCalls$Weave;)V"⟩
abbrev cX5_methods : ByteArray := prog_7_method_4_code
def yX5_methods : MethodName := ⟨RX5, "methods", "()I"⟩
abbrev cX5_adviceCount : ByteArray := prog_7_method_5_code
def yX5_adviceCount : MethodName := ⟨RX5, "adviceCount", "()I"⟩
abbrev cX5_statements : ByteArray := prog_7_method_6_code
def yX5_statements : MethodName := ⟨RX5, "statements", "()I"⟩
abbrev cX5_classOf : ByteArray := prog_7_method_7_code
def yX5_classOf : MethodName := ⟨RX5, "classOf", "(I)I"⟩
abbrev cX5_putClass : ByteArray := prog_7_method_8_code
def yX5_putClass : MethodName := ⟨RX5, "putClass", "(II)V"⟩
abbrev cX5_length : ByteArray := prog_7_method_9_code
def yX5_length : MethodName := ⟨RX5, "length", "(I)I"⟩
abbrev cX5_sort : ByteArray := prog_7_method_10_code
def yX5_sort : MethodName := ⟨RX5, "sort", "(II)I"⟩
abbrev cX5_operand : ByteArray := prog_7_method_11_code
def yX5_operand : MethodName := ⟨RX5, "operand", "(II)I"⟩
abbrev cX5_putStatement : ByteArray := prog_7_method_12_code
def yX5_putStatement : MethodName := ⟨RX5, "putStatement", "(IIII)V"⟩
abbrev cX5_fact : ByteArray := prog_7_method_13_code
def yX5_fact : MethodName := ⟨RX5, "fact", "(II)I"⟩
abbrev cX5_putFact : ByteArray := prog_7_method_14_code
def yX5_putFact : MethodName := ⟨RX5, "putFact", "(III)V"⟩
abbrev cX5_exchange : ByteArray := prog_7_method_15_code
def yX5_exchange : MethodName := ⟨RX5, "exchange", "(II)V"⟩
abbrev cX5_addMethod : ByteArray := prog_7_method_16_code
def yX5_addMethod : MethodName := ⟨RX5, "addMethod", "(I)V"⟩
abbrev cX5_addStatement : ByteArray := prog_7_method_17_code
def yX5_addStatement : MethodName := ⟨RX5, "addStatement", "(II)V"⟩
abbrev cX5_addAdvice : ByteArray := prog_7_method_18_code
def yX5_addAdvice : MethodName := ⟨RX5, "addAdvice", "(I)I"⟩
abbrev cX5_callsOnlyWhatIsThere : ByteArray := prog_7_method_19_code
def yX5_callsOnlyWhatIsThere : MethodName := ⟨RX5, "callsOnlyWhatIsThere", "()Z"⟩
abbrev cX5_calledBy : ByteArray := prog_7_method_20_code
def yX5_calledBy : MethodName := ⟨RX5, "calledBy", "(I)I"⟩
abbrev cX5_reachedFrom : ByteArray := prog_7_method_21_code
def yX5_reachedFrom : MethodName := ⟨RX5, "reachedFrom", "(I)I"⟩
abbrev cX5_calledByAny : ByteArray := prog_7_method_22_code
def yX5_calledByAny : MethodName := ⟨RX5, "calledByAny", "(I)I"⟩
abbrev cX5_isAbout : ByteArray := prog_7_method_23_code
def yX5_isAbout : MethodName := ⟨RX5, "isAbout", "(II)Z"⟩
abbrev cX5_known : ByteArray := prog_7_method_24_code
def yX5_known : MethodName := ⟨RX5, "known", "(II)I"⟩
abbrev cX5_mayBeWithin : ByteArray := prog_7_method_25_code
def yX5_mayBeWithin : MethodName := ⟨RX5, "mayBeWithin", "(II)Z"⟩
abbrev cX5_testedAbout : ByteArray := prog_7_method_26_code
def yX5_testedAbout : MethodName := ⟨RX5, "testedAbout", "(I)I"⟩
abbrev cX5_methodsNotNever : ByteArray := prog_7_method_27_code
def yX5_methodsNotNever : MethodName := ⟨RX5, "methodsNotNever", "(I)I"⟩
abbrev cX5_meantAt : ByteArray := prog_7_method_28_code
def yX5_meantAt : MethodName := ⟨RX5, "meantAt", "(III)I"⟩
def RX6 : String := "WovenCalls"
def TX6 : u_T := fun k => match k with
  | 0 => ("WovenCalls", "rows", "[LWovenCalls$Row;", true)
  | 1 => ("WovenCalls", "tape", "LWovenCalls$Tape;", true)
  | 2 => ("WovenCalls", "woven", "LWovenCalls$Weave;", true)
  | 3 => ("WovenCalls", "trial", "LWovenCalls$Weave;", true)
  | 4 => ("WovenCalls", "images", "[LWovenCalls$Weave;", true)
  | 5 => ("WovenCalls", "acts", "LWovenCalls$Acts;", true)
  | 6 => ("WovenCalls", "latest", "LWovenCalls$Run;", true)
  | 7 => ("WovenCalls", "asks", "LWovenCalls$Asks;", true)
  | 8 => ("WovenCalls", "latestFault", "I", false)
  | _ => ("WovenCalls", "latestFinding", "I", false)
def tyX6 : Nat → FieldType := fun k => match k with
  | 0 => .array (.object "WovenCalls$Row")
  | 1 => .object "WovenCalls$Tape"
  | 2 => .object "WovenCalls$Weave"
  | 3 => .object "WovenCalls$Weave"
  | 4 => .array (.object "WovenCalls$Weave")
  | 5 => .object "WovenCalls$Acts"
  | 6 => .object "WovenCalls$Run"
  | 7 => .object "WovenCalls$Asks"
  | 8 => .int
  | _ => .int
abbrev wsX60 : List Cond := u_ws RX6 TX6 10
theorem nmX6 : ∀ a, a < 10 → ∀ b, b < 10 → a ≠ b → (TX6 a).2.1 ≠ (TX6 b).2.1 := by decide +kernel
theorem tyX6_ok : ∀ k, k < 10 → parseFieldDescriptor (TX6 k).2.2.1 = some (tyX6 k) := by decide +kernel
abbrev cX6_init : ByteArray := prog_1_method_1_code
def yX6_init : MethodName := ⟨RX6, "<init>", "()V"⟩
abbrev cX6_row : ByteArray := prog_1_method_2_code
def yX6_row : MethodName := ⟨RX6, "row", "(III)I"⟩
abbrev cX6_set : ByteArray := prog_1_method_3_code
def yX6_set : MethodName := ⟨RX6, "set", "(III)I"⟩
abbrev cX6_copy : ByteArray := prog_1_method_4_code
def yX6_copy : MethodName := ⟨RX6, "copy", "(IIIII)I"⟩
abbrev cX6_drop : ByteArray := prog_1_method_5_code
def yX6_drop : MethodName := ⟨RX6, "drop", "(I)I"⟩
abbrev cX6_feed : ByteArray := prog_1_method_6_code
def yX6_feed : MethodName := ⟨RX6, "feed", "(I)I"⟩
abbrev cX6_weave : ByteArray := prog_1_method_7_code
def yX6_weave : MethodName := ⟨RX6, "weave", "()I"⟩
abbrev cX6_fault : ByteArray := prog_1_method_8_code
def yX6_fault : MethodName := ⟨RX6, "fault", "()I"⟩
abbrev cX6_change : ByteArray := prog_1_method_9_code
def yX6_change : MethodName := ⟨RX6, "change", "(III)I"⟩
abbrev cX6_become : ByteArray := prog_1_method_10_code
def yX6_become : MethodName := ⟨RX6, "become", "(II)I"⟩
abbrev cX6_swap : ByteArray := prog_1_method_11_code
def yX6_swap : MethodName := ⟨RX6, "swap", "(II)I"⟩
abbrev cX6_state : ByteArray := prog_1_method_12_code
def yX6_state : MethodName := ⟨RX6, "state", "(IIII)I"⟩
abbrev cX6_belong : ByteArray := prog_1_method_13_code
def yX6_belong : MethodName := ⟨RX6, "belong", "(II)I"⟩
abbrev cX6_undo : ByteArray := prog_1_method_14_code
def yX6_undo : MethodName := ⟨RX6, "undo", "()I"⟩
abbrev cX6_method : ByteArray := prog_1_method_15_code
def yX6_method : MethodName := ⟨RX6, "method", "(II)I"⟩
abbrev cX6_advice : ByteArray := prog_1_method_16_code
def yX6_advice : MethodName := ⟨RX6, "advice", "(II)I"⟩
abbrev cX6_ahead : ByteArray := prog_1_method_17_code
def yX6_ahead : MethodName := ⟨RX6, "ahead", "(II)I"⟩
abbrev cX6_run : ByteArray := prog_1_method_18_code
def yX6_run : MethodName := ⟨RX6, "run", "(III)I"⟩
abbrev cX6_least : ByteArray := prog_1_method_19_code
def yX6_least : MethodName := ⟨RX6, "least", "(I)I"⟩
abbrev cX6_needed : ByteArray := prog_1_method_20_code
def yX6_needed : MethodName := ⟨RX6, "needed", "(II)I"⟩
abbrev cX6_fits : ByteArray := prog_1_method_21_code
def yX6_fits : MethodName := ⟨RX6, "fits", "(IIIII)I"⟩
abbrev cX6_drawn : ByteArray := prog_1_method_22_code
def yX6_drawn : MethodName := ⟨RX6, "drawn", "(III)I"⟩
abbrev cX6_image : ByteArray := prog_1_method_23_code
def yX6_image : MethodName := ⟨RX6, "image", "(I)I"⟩
abbrev cX6_restore : ByteArray := prog_1_method_24_code
def yX6_restore : MethodName := ⟨RX6, "restore", "(I)I"⟩
abbrev cX6_kind : ByteArray := prog_1_method_25_code
def yX6_kind : MethodName := ⟨RX6, "kind", "(I)I"⟩
abbrev cX6_as : ByteArray := prog_1_method_26_code
def yX6_as : MethodName := ⟨RX6, "as", "(II)I"⟩
abbrev cX6_ask : ByteArray := prog_1_method_27_code
def yX6_ask : MethodName := ⟨RX6, "ask", "(II)I"⟩
abbrev cX6_trace : ByteArray := prog_1_method_28_code
def yX6_trace : MethodName := ⟨RX6, "trace", "(I)I"⟩
abbrev cX6_count : ByteArray := prog_1_method_29_code
def yX6_count : MethodName := ⟨RX6, "count", "(I)I"⟩
abbrev cX6_status : ByteArray := prog_1_method_30_code
def yX6_status : MethodName := ⟨RX6, "status", "()I"⟩
abbrev cX6_isWithin : ByteArray := prog_1_method_31_code
def yX6_isWithin : MethodName := ⟨RX6, "isWithin", "(III)Z"⟩
abbrev cX6_hasBit : ByteArray := prog_1_method_32_code
def yX6_hasBit : MethodName := ⟨RX6, "hasBit", "(II)Z"⟩
abbrev cX6_isRow : ByteArray := prog_1_method_33_code
def yX6_isRow : MethodName := ⟨RX6, "isRow", "(I)Z"⟩
abbrev cX6_isArgument : ByteArray := prog_1_method_34_code
def yX6_isArgument : MethodName := ⟨RX6, "isArgument", "(I)Z"⟩
abbrev cX6_isImage : ByteArray := prog_1_method_35_code
def yX6_isImage : MethodName := ⟨RX6, "isImage", "(I)Z"⟩
abbrev cX6_isMethod : ByteArray := prog_1_method_36_code
def yX6_isMethod : MethodName := ⟨RX6, "isMethod", "(I)Z"⟩
abbrev cX6_isAdvice : ByteArray := prog_1_method_37_code
def yX6_isAdvice : MethodName := ⟨RX6, "isAdvice", "(I)Z"⟩
abbrev cX6_isStatement : ByteArray := prog_1_method_38_code
def yX6_isStatement : MethodName := ⟨RX6, "isStatement", "(II)Z"⟩
abbrev cX6_find : ByteArray := prog_1_method_39_code
def yX6_find : MethodName := ⟨RX6, "find", "(I)I"⟩
abbrev cX6_findNothing : ByteArray := prog_1_method_40_code
def yX6_findNothing : MethodName := ⟨RX6, "findNothing", "(I)I"⟩
abbrev cX6_rowsThere : ByteArray := prog_1_method_41_code
def yX6_rowsThere : MethodName := ⟨RX6, "rowsThere", "()I"⟩
abbrev cX6_changeFact : ByteArray := prog_1_method_42_code
def yX6_changeFact : MethodName := ⟨RX6, "changeFact", "(III)I"⟩
abbrev cX6_statementOf : ByteArray := prog_1_method_43_code
def yX6_statementOf : MethodName := ⟨RX6, "statementOf", "(II)I"⟩
abbrev cX6_lastTried : ByteArray := prog_1_method_44_code
def yX6_lastTried : MethodName := ⟨RX6, "lastTried", "(I)I"⟩
abbrev cX6_tryWith : ByteArray := prog_1_method_45_code
def yX6_tryWith : MethodName := ⟨RX6, "tryWith", "(III)V"⟩
def RX7 : String := "WovenCallsModel"
def TX7 : u_T := fun k => match k with
  | 0 => ("WovenCallsModel", "lane", "[I", true)
  | 1 => ("WovenCallsModel", "many", "[I", true)
  | 2 => ("WovenCallsModel", "items", "[I", true)
  | 3 => ("WovenCallsModel", "spare", "[I", true)
  | 4 => ("WovenCallsModel", "status", "I", false)
  | 5 => ("WovenCallsModel", "tape", "[I", true)
  | 6 => ("WovenCallsModel", "taped", "I", false)
  | 7 => ("WovenCallsModel", "faultKind", "I", false)
  | 8 => ("WovenCallsModel", "faultPlace", "I", false)
  | 9 => ("WovenCallsModel", "at", "I", false)
  | 10 => ("WovenCallsModel", "start", "I", false)
  | 11 => ("WovenCallsModel", "token", "I", false)
  | 12 => ("WovenCallsModel", "value", "I", false)
  | 13 => ("WovenCallsModel", "now", "[I", true)
  | 14 => ("WovenCallsModel", "draft", "[I", true)
  | 15 => ("WovenCallsModel", "tried", "[I", true)
  | 16 => ("WovenCallsModel", "past", "[I", true)
  | 17 => ("WovenCallsModel", "acts", "I", false)
  | 18 => ("WovenCallsModel", "images", "[I", true)
  | 19 => ("WovenCallsModel", "kept", "[Z", true)
  | 20 => ("WovenCallsModel", "heap", "[I", true)
  | 21 => ("WovenCallsModel", "top", "I", false)
  | 22 => ("WovenCallsModel", "going", "[I", true)
  | 23 => ("WovenCallsModel", "numbers", "[I", true)
  | 24 => ("WovenCallsModel", "emitted", "I", false)
  | 25 => ("WovenCallsModel", "failure", "I", false)
  | 26 => ("WovenCallsModel", "given", "I", false)
  | 27 => ("WovenCallsModel", "calls", "I", false)
  | 28 => ("WovenCallsModel", "tests", "I", false)
  | 29 => ("WovenCallsModel", "full", "Z", false)
  | 30 => ("WovenCallsModel", "trace", "[I", true)
  | _ => ("WovenCallsModel", "traced", "I", false)
def tyX7 : Nat → FieldType := fun k => match k with
  | 0 => .array .int
  | 1 => .array .int
  | 2 => .array .int
  | 3 => .array .int
  | 4 => .int
  | 5 => .array .int
  | 6 => .int
  | 7 => .int
  | 8 => .int
  | 9 => .int
  | 10 => .int
  | 11 => .int
  | 12 => .int
  | 13 => .array .int
  | 14 => .array .int
  | 15 => .array .int
  | 16 => .array .int
  | 17 => .int
  | 18 => .array .int
  | 19 => .array .boolean
  | 20 => .array .int
  | 21 => .int
  | 22 => .array .int
  | 23 => .array .int
  | 24 => .int
  | 25 => .int
  | 26 => .int
  | 27 => .int
  | 28 => .int
  | 29 => .boolean
  | 30 => .array .int
  | _ => .int
abbrev wsX70 : List Cond := u_ws RX7 TX7 32
theorem nmX7 : ∀ a, a < 32 → ∀ b, b < 32 → a ≠ b → (TX7 a).2.1 ≠ (TX7 b).2.1 := by decide +kernel
theorem tyX7_ok : ∀ k, k < 32 → parseFieldDescriptor (TX7 k).2.2.1 = some (tyX7 k) := by decide +kernel
abbrev cX7_init : ByteArray := prog_9_method_1_code
def yX7_init : MethodName := ⟨RX7, "<init>", "()V"⟩
abbrev cX7_in : ByteArray := prog_9_method_3_code
def yX7_in : MethodName := ⟨RX7, "in", "(III)Z"⟩
abbrev cX7_has : ByteArray := prog_9_method_4_code
def yX7_has : MethodName := ⟨RX7, "has", "(II)Z"⟩
abbrev cX7_found : ByteArray := prog_9_method_5_code
def yX7_found : MethodName := ⟨RX7, "found", "(I)I"⟩
abbrev cX7_well : ByteArray := prog_9_method_6_code
def yX7_well : MethodName := ⟨RX7, "well", "(I)I"⟩
abbrev cX7_copies : ByteArray := prog_9_method_7_code
def yX7_copies : MethodName := ⟨RX7, "copies", "([II[II)V"⟩
abbrev cX7_isRow : ByteArray := prog_9_method_8_code
def yX7_isRow : MethodName := ⟨RX7, "isRow", "(I)Z"⟩
abbrev cX7_isMissing : ByteArray := prog_9_method_9_code
def yX7_isMissing : MethodName := ⟨RX7, "isMissing", "(I)Z"⟩
abbrev cX7_lowest : ByteArray := prog_9_method_10_code
def yX7_lowest : MethodName := ⟨RX7, "lowest", "(II)I"⟩
abbrev cX7_row : ByteArray := prog_9_method_11_code
def yX7_row : MethodName := ⟨RX7, "row", "(III)I"⟩
abbrev cX7_set : ByteArray := prog_9_method_12_code
def yX7_set : MethodName := ⟨RX7, "set", "(III)I"⟩
abbrev cX7_isPart : ByteArray := prog_9_method_13_code
def yX7_isPart : MethodName := ⟨RX7, "isPart", "(III)Z"⟩
abbrev cX7_copy : ByteArray := prog_9_method_14_code
def yX7_copy : MethodName := ⟨RX7, "copy", "(IIIII)I"⟩
abbrev cX7_drop : ByteArray := prog_9_method_15_code
def yX7_drop : MethodName := ⟨RX7, "drop", "(I)I"⟩
abbrev cX7_feed : ByteArray := prog_9_method_16_code
def yX7_feed : MethodName := ⟨RX7, "feed", "(I)I"⟩
abbrev cX7_byteAt : ByteArray := prog_9_method_17_code
def yX7_byteAt : MethodName := ⟨RX7, "byteAt", "(I)I"⟩
abbrev cX7_advances : ByteArray := prog_9_method_18_code
def yX7_advances : MethodName := ⟨RX7, "advances", "()V"⟩
abbrev cX7_isWell : ByteArray := prog_9_method_19_code
def yX7_isWell : MethodName := ⟨RX7, "isWell", "()Z"⟩
abbrev cX7_takes : ByteArray := prog_9_method_20_code
def yX7_takes : MethodName := ⟨RX7, "takes", "(ZI)I"⟩
abbrev cX7_figure : ByteArray := prog_9_method_21_code
def yX7_figure : MethodName := ⟨RX7, "figure", "(II)I"⟩
abbrev cX7_kindOf : ByteArray := prog_9_method_22_code
def yX7_kindOf : MethodName := ⟨RX7, "kindOf", "(I)I"⟩
abbrev cX7_sortOf : ByteArray := prog_9_method_23_code
def yX7_sortOf : MethodName := ⟨RX7, "sortOf", "(I)I"⟩
abbrev cX7_behind : ByteArray := prog_9_method_24_code
def yX7_behind : MethodName := ⟨RX7, "behind", "(II)I"⟩
abbrev cX7_must : ByteArray := prog_9_method_25_code
def yX7_must : MethodName := ⟨RX7, "must", "(ZI)V"⟩
abbrev cX7_readsMethod : ByteArray := prog_9_method_26_code
def yX7_readsMethod : MethodName := ⟨RX7, "readsMethod", "()V"⟩
abbrev cX7_readsAdvice : ByteArray := prog_9_method_27_code
def yX7_readsAdvice : MethodName := ⟨RX7, "readsAdvice", "()V"⟩
abbrev cX7_areThere : ByteArray := prog_9_method_28_code
def yX7_areThere : MethodName := ⟨RX7, "areThere", "([I)Z"⟩
abbrev cX7_weave : ByteArray := prog_9_method_29_code
def yX7_weave : MethodName := ⟨RX7, "weave", "()I"⟩
abbrev cX7_fault : ByteArray := prog_9_method_30_code
def yX7_fault : MethodName := ⟨RX7, "fault", "()I"⟩
abbrev cX7_isWeave : ByteArray := prog_9_method_31_code
def yX7_isWeave : MethodName := ⟨RX7, "isWeave", "()Z"⟩
abbrev cX7_isMethod : ByteArray := prog_9_method_32_code
def yX7_isMethod : MethodName := ⟨RX7, "isMethod", "(I)Z"⟩
abbrev cX7_isAdvice : ByteArray := prog_9_method_33_code
def yX7_isAdvice : MethodName := ⟨RX7, "isAdvice", "(I)Z"⟩
abbrev cX7_isBelow : ByteArray := prog_9_method_34_code
def yX7_isBelow : MethodName := ⟨RX7, "isBelow", "(II)Z"⟩
abbrev cX7_isPlace : ByteArray := prog_9_method_35_code
def yX7_isPlace : MethodName := ⟨RX7, "isPlace", "([III)Z"⟩
abbrev cX7_callsOf : ByteArray := prog_9_method_36_code
def yX7_callsOf : MethodName := ⟨RX7, "callsOf", "([II)I"⟩
abbrev cX7_reachedOf : ByteArray := prog_9_method_37_code
def yX7_reachedOf : MethodName := ⟨RX7, "reachedOf", "([II)I"⟩
abbrev cX7_aheadOf : ByteArray := prog_9_method_38_code
def yX7_aheadOf : MethodName := ⟨RX7, "aheadOf", "([III)I"⟩
abbrev cX7_emits : ByteArray := prog_9_method_39_code
def yX7_emits : MethodName := ⟨RX7, "emits", "(I)V"⟩
abbrev cX7_pushes : ByteArray := prog_9_method_40_code
def yX7_pushes : MethodName := ⟨RX7, "pushes", "(IIIII)V"⟩
abbrev cX7_goesOn : ByteArray := prog_9_method_41_code
def yX7_goesOn : MethodName := ⟨RX7, "goesOn", "([IIIII)V"⟩
abbrev cX7_callsBy : ByteArray := prog_9_method_42_code
def yX7_callsBy : MethodName := ⟨RX7, "callsBy", "([III)V"⟩
abbrev cX7_ends : ByteArray := prog_9_method_43_code
def yX7_ends : MethodName := ⟨RX7, "ends", "(II)V"⟩
abbrev cX7_abouts : ByteArray := prog_9_method_44_code
def yX7_abouts : MethodName := ⟨RX7, "abouts", "([IIZ)V"⟩
abbrev cX7_bodies : ByteArray := prog_9_method_45_code
def yX7_bodies : MethodName := ⟨RX7, "bodies", "([IIZ)V"⟩
abbrev cX7_runs : ByteArray := prog_9_method_46_code
def yX7_runs : MethodName := ⟨RX7, "runs", "([III)V"⟩
abbrev cX7_notes : ByteArray := prog_9_method_47_code
def yX7_notes : MethodName := ⟨RX7, "notes", "()V"⟩
abbrev cX7_becomes : ByteArray := prog_9_method_48_code
def yX7_becomes : MethodName := ⟨RX7, "becomes", "(II)I"⟩
abbrev cX7_change : ByteArray := prog_9_method_49_code
def yX7_change : MethodName := ⟨RX7, "change", "(III)I"⟩
abbrev cX7_become : ByteArray := prog_9_method_50_code
def yX7_become : MethodName := ⟨RX7, "become", "(II)I"⟩
abbrev cX7_swaps : ByteArray := prog_9_method_51_code
def yX7_swaps : MethodName := ⟨RX7, "swaps", "([III)V"⟩
abbrev cX7_swap : ByteArray := prog_9_method_52_code
def yX7_swap : MethodName := ⟨RX7, "swap", "(II)I"⟩
abbrev cX7_state : ByteArray := prog_9_method_53_code
def yX7_state : MethodName := ⟨RX7, "state", "(IIII)I"⟩
abbrev cX7_belong : ByteArray := prog_9_method_54_code
def yX7_belong : MethodName := ⟨RX7, "belong", "(II)I"⟩
abbrev cX7_undo : ByteArray := prog_9_method_55_code
def yX7_undo : MethodName := ⟨RX7, "undo", "()I"⟩
abbrev cX7_method : ByteArray := prog_9_method_56_code
def yX7_method : MethodName := ⟨RX7, "method", "(II)I"⟩
abbrev cX7_advice : ByteArray := prog_9_method_57_code
def yX7_advice : MethodName := ⟨RX7, "advice", "(II)I"⟩
abbrev cX7_ahead : ByteArray := prog_9_method_58_code
def yX7_ahead : MethodName := ⟨RX7, "ahead", "(II)I"⟩
abbrev cX7_run : ByteArray := prog_9_method_59_code
def yX7_run : MethodName := ⟨RX7, "run", "(III)I"⟩
abbrev cX7_least : ByteArray := prog_9_method_60_code
def yX7_least : MethodName := ⟨RX7, "least", "(I)I"⟩
abbrev cX7_needed : ByteArray := prog_9_method_61_code
def yX7_needed : MethodName := ⟨RX7, "needed", "(II)I"⟩
abbrev cX7_isSeen : ByteArray := prog_9_method_62_code
def yX7_isSeen : MethodName := ⟨RX7, "isSeen", "(III)Z"⟩
abbrev cX7_fits : ByteArray := prog_9_method_63_code
def yX7_fits : MethodName := ⟨RX7, "fits", "(IIIII)I"⟩
abbrev cX7_drawn : ByteArray := prog_9_method_64_code
def yX7_drawn : MethodName := ⟨RX7, "drawn", "(III)I"⟩
abbrev cX7_image : ByteArray := prog_9_method_65_code
def yX7_image : MethodName := ⟨RX7, "image", "(I)I"⟩
abbrev cX7_restore : ByteArray := prog_9_method_66_code
def yX7_restore : MethodName := ⟨RX7, "restore", "(I)I"⟩
abbrev cX7_kindIn : ByteArray := prog_9_method_67_code
def yX7_kindIn : MethodName := ⟨RX7, "kindIn", "(I)I"⟩
abbrev cX7_aboutOf : ByteArray := prog_9_method_68_code
def yX7_aboutOf : MethodName := ⟨RX7, "aboutOf", "(I)I"⟩
abbrev cX7_kind : ByteArray := prog_9_method_69_code
def yX7_kind : MethodName := ⟨RX7, "kind", "(I)I"⟩
abbrev cX7_as : ByteArray := prog_9_method_70_code
def yX7_as : MethodName := ⟨RX7, "as", "(II)I"⟩
abbrev cX7_begins : ByteArray := prog_9_method_71_code
def yX7_begins : MethodName := ⟨RX7, "begins", "(I)V"⟩
abbrev cX7_afterMark : ByteArray := prog_9_method_72_code
def yX7_afterMark : MethodName := ⟨RX7, "afterMark", "(I)I"⟩
abbrev cX7_aroundSize : ByteArray := prog_9_method_73_code
def yX7_aroundSize : MethodName := ⟨RX7, "aroundSize", "(I)I"⟩
abbrev cX7_afterSize : ByteArray := prog_9_method_74_code
def yX7_afterSize : MethodName := ⟨RX7, "afterSize", "(I)I"⟩
abbrev cX7_aroundMark : ByteArray := prog_9_method_75_code
def yX7_aroundMark : MethodName := ⟨RX7, "aroundMark", "(I)I"⟩
abbrev cX7_ask : ByteArray := prog_9_method_76_code
def yX7_ask : MethodName := ⟨RX7, "ask", "(II)I"⟩
abbrev cX7_trace : ByteArray := prog_9_method_77_code
def yX7_trace : MethodName := ⟨RX7, "trace", "(I)I"⟩
abbrev cX7_count : ByteArray := prog_9_method_78_code
def yX7_count : MethodName := ⟨RX7, "count", "(I)I"⟩
abbrev cX7_status : ByteArray := prog_9_method_79_code
def yX7_status : MethodName := ⟨RX7, "status", "()I"⟩
def RJ9 : String := "java/lang/Math"
def TJ9 : u_T := fun k => match k with
  | _ => ("", "", "", false)
def tyJ9 : Nat → FieldType := fun k => match k with
  | _ => .int
abbrev wsJ90 : List Cond := u_ws RJ9 TJ9 0
theorem nmJ9 : ∀ a, a < 0 → ∀ b, b < 0 → a ≠ b → (TJ9 a).2.1 ≠ (TJ9 b).2.1 := by decide +kernel
theorem tyJ9_ok : ∀ k, k < 0 → parseFieldDescriptor (TJ9 k).2.2.1 = some (tyJ9 k) := by decide +kernel
abbrev cJ9_abs_0f7a4 : ByteArray := prog_10_method_59_code
def yJ9_abs_0f7a4 : MethodName := ⟨RJ9, "abs", "(I)I"⟩
abbrev cJ9_min_7cf53 : ByteArray := prog_10_method_69_code
def yJ9_min_7cf53 : MethodName := ⟨RJ9, "min", "(II)I"⟩
def RJ10 : String := "java/lang/System"
def TJ10 : u_T := fun k => match k with
  | _ => ("", "", "", false)
def tyJ10 : Nat → FieldType := fun k => match k with
  | _ => .int
abbrev wsJ100 : List Cond := u_ws RJ10 TJ10 0
theorem nmJ10 : ∀ a, a < 0 → ∀ b, b < 0 → a ≠ b → (TJ10 a).2.1 ≠ (TJ10 b).2.1 := by decide +kernel
theorem tyJ10_ok : ∀ k, k < 0 → parseFieldDescriptor (TJ10 k).2.2.1 = some (tyJ10 k) := by decide +kernel
def RL : String := "WovenCallsLaw"
abbrev cL_law : ByteArray := code
def yL_law : MethodName := ⟨RL, "law", "([I)Z"⟩
abbrev vwCl : List vw_C := [(RX0, TX0, 2), (RX1, TX1, 3), (RX2, TX2, 3), (RX3, TX3, 8), (RX4, TX4, 7), (RX5, TX5, 7), (RX6, TX6, 10), (RX7, TX7, 32)]
end
section
theorem dX0_init_0 : decode cX0_init 0 = .ok (.aload_n 0, 1) := by decide +kernel
theorem dX0_init_1 : decode cX0_init 1 = .ok (.invokespecial 3, 3) := by decide +kernel
theorem dX0_init_4 : decode cX0_init 4 = .ok (.aload_n 0, 1) := by decide +kernel
theorem dX0_init_5 : decode cX0_init 5 = .ok (.bipush 80, 2) := by decide +kernel
theorem dX0_init_7 : decode cX0_init 7 = .ok (.newarray .int, 2) := by decide +kernel
theorem dX0_init_9 : decode cX0_init 9 = .ok (.putfield 11, 3) := by decide +kernel
theorem dX0_init_12 : decode cX0_init 12 = .ok (.aload_n 0, 1) := by decide +kernel
theorem dX0_init_13 : decode cX0_init 13 = .ok (.iconst 0, 1) := by decide +kernel
theorem dX0_init_14 : decode cX0_init 14 = .ok (.putfield 15, 3) := by decide +kernel
theorem dX0_init_17 : decode cX0_init 17 = .ok (.return_, 1) := by decide +kernel
theorem dX0_size_0 : decode cX0_size 0 = .ok (.aload_n 0, 1) := by decide +kernel
theorem dX0_size_1 : decode cX0_size 1 = .ok (.getfield 15, 3) := by decide +kernel
theorem dX0_size_4 : decode cX0_size 4 = .ok (.ireturn, 1) := by decide +kernel
theorem dX0_forget_0 : decode cX0_forget 0 = .ok (.aload_n 0, 1) := by decide +kernel
theorem dX0_forget_1 : decode cX0_forget 1 = .ok (.iconst 0, 1) := by decide +kernel
theorem dX0_forget_2 : decode cX0_forget 2 = .ok (.putfield 15, 3) := by decide +kernel
theorem dX0_forget_5 : decode cX0_forget 5 = .ok (.return_, 1) := by decide +kernel
theorem dX0_keepFact_0 : decode cX0_keepFact 0 = .ok (.aload_n 0, 1) := by decide +kernel
theorem dX0_keepFact_1 : decode cX0_keepFact 1 = .ok (.iconst 0, 1) := by decide +kernel
theorem dX0_keepFact_2 : decode cX0_keepFact 2 = .ok (.iload_n 1, 1) := by decide +kernel
theorem dX0_keepFact_3 : decode cX0_keepFact 3 = .ok (.iload_n 2, 1) := by decide +kernel
theorem dX0_keepFact_4 : decode cX0_keepFact 4 = .ok (.iload_n 3, 1) := by decide +kernel
theorem dX0_keepFact_5 : decode cX0_keepFact 5 = .ok (.iconst 0, 1) := by decide +kernel
theorem dX0_keepFact_6 : decode cX0_keepFact 6 = .ok (.invokevirtual 19, 3) := by decide +kernel
theorem dX0_keepFact_9 : decode cX0_keepFact 9 = .ok (.return_, 1) := by decide +kernel
theorem dX0_keepExchange_0 : decode cX0_keepExchange 0 = .ok (.aload_n 0, 1) := by decide +kernel
theorem dX0_keepExchange_1 : decode cX0_keepExchange 1 = .ok (.iconst 1, 1) := by decide +kernel
theorem dX0_keepExchange_2 : decode cX0_keepExchange 2 = .ok (.iload_n 1, 1) := by decide +kernel
theorem dX0_keepExchange_3 : decode cX0_keepExchange 3 = .ok (.iload_n 2, 1) := by decide +kernel
theorem dX0_keepExchange_4 : decode cX0_keepExchange 4 = .ok (.iconst 0, 1) := by decide +kernel
theorem dX0_keepExchange_5 : decode cX0_keepExchange 5 = .ok (.iconst 0, 1) := by decide +kernel
theorem dX0_keepExchange_6 : decode cX0_keepExchange 6 = .ok (.invokevirtual 19, 3) := by decide +kernel
theorem dX0_keepExchange_9 : decode cX0_keepExchange 9 = .ok (.return_, 1) := by decide +kernel
theorem dX0_keepStatement_0 : decode cX0_keepStatement 0 = .ok (.aload_n 0, 1) := by decide +kernel
theorem dX0_keepStatement_1 : decode cX0_keepStatement 1 = .ok (.iconst 2, 1) := by decide +kernel
theorem dX0_keepStatement_2 : decode cX0_keepStatement 2 = .ok (.iload_n 1, 1) := by decide +kernel
theorem dX0_keepStatement_3 : decode cX0_keepStatement 3 = .ok (.iload_n 2, 1) := by decide +kernel
theorem dX0_keepStatement_4 : decode cX0_keepStatement 4 = .ok (.iload_n 3, 1) := by decide +kernel
theorem dX0_keepStatement_5 : decode cX0_keepStatement 5 = .ok (.iload 4, 2) := by decide +kernel
theorem dX0_keepStatement_7 : decode cX0_keepStatement 7 = .ok (.invokevirtual 19, 3) := by decide +kernel
theorem dX0_keepStatement_10 : decode cX0_keepStatement 10 = .ok (.return_, 1) := by decide +kernel
theorem dX0_keepClass_0 : decode cX0_keepClass 0 = .ok (.aload_n 0, 1) := by decide +kernel
theorem dX0_keepClass_1 : decode cX0_keepClass 1 = .ok (.iconst 3, 1) := by decide +kernel
theorem dX0_keepClass_2 : decode cX0_keepClass 2 = .ok (.iload_n 1, 1) := by decide +kernel
theorem dX0_keepClass_3 : decode cX0_keepClass 3 = .ok (.iload_n 2, 1) := by decide +kernel
theorem dX0_keepClass_4 : decode cX0_keepClass 4 = .ok (.iconst 0, 1) := by decide +kernel
theorem dX0_keepClass_5 : decode cX0_keepClass 5 = .ok (.iconst 0, 1) := by decide +kernel
theorem dX0_keepClass_6 : decode cX0_keepClass 6 = .ok (.invokevirtual 19, 3) := by decide +kernel
theorem dX0_keepClass_9 : decode cX0_keepClass 9 = .ok (.return_, 1) := by decide +kernel
theorem dX0_keep_0 : decode cX0_keep 0 = .ok (.aload_n 0, 1) := by decide +kernel
theorem dX0_keep_1 : decode cX0_keep 1 = .ok (.getfield 15, 3) := by decide +kernel
theorem dX0_keep_4 : decode cX0_keep 4 = .ok (.bipush 16, 2) := by decide +kernel
theorem dX0_keep_6 : decode cX0_keep 6 = .ok (.if_icmp .lt 24, 3) := by decide +kernel
theorem dX0_keep_9 : decode cX0_keep 9 = .ok (.aload_n 0, 1) := by decide +kernel
theorem dX0_keep_10 : decode cX0_keep 10 = .ok (.getfield 11, 3) := by decide +kernel
theorem dX0_keep_13 : decode cX0_keep 13 = .ok (.iconst 5, 1) := by decide +kernel
theorem dX0_keep_14 : decode cX0_keep 14 = .ok (.aload_n 0, 1) := by decide +kernel
theorem dX0_keep_15 : decode cX0_keep 15 = .ok (.getfield 11, 3) := by decide +kernel
theorem dX0_keep_18 : decode cX0_keep 18 = .ok (.iconst 0, 1) := by decide +kernel
theorem dX0_keep_19 : decode cX0_keep 19 = .ok (.bipush 75, 2) := by decide +kernel
theorem dX0_keep_21 : decode cX0_keep 21 = .ok (.invokestatic 23, 3) := by decide +kernel
theorem dX0_keep_24 : decode cX0_keep 24 = .ok (.aload_n 0, 1) := by decide +kernel
theorem dX0_keep_25 : decode cX0_keep 25 = .ok (.bipush 15, 2) := by decide +kernel
theorem dX0_keep_27 : decode cX0_keep 27 = .ok (.putfield 15, 3) := by decide +kernel
theorem dX0_keep_30 : decode cX0_keep 30 = .ok (.aload_n 0, 1) := by decide +kernel
theorem dX0_keep_31 : decode cX0_keep 31 = .ok (.getfield 15, 3) := by decide +kernel
theorem dX0_keep_34 : decode cX0_keep 34 = .ok (.iconst 5, 1) := by decide +kernel
theorem dX0_keep_35 : decode cX0_keep 35 = .ok (.imul, 1) := by decide +kernel
theorem dX0_keep_36 : decode cX0_keep 36 = .ok (.istore 6, 2) := by decide +kernel
theorem dX0_keep_38 : decode cX0_keep 38 = .ok (.aload_n 0, 1) := by decide +kernel
theorem dX0_keep_39 : decode cX0_keep 39 = .ok (.getfield 11, 3) := by decide +kernel
theorem dX0_keep_42 : decode cX0_keep 42 = .ok (.iload 6, 2) := by decide +kernel
theorem dX0_keep_44 : decode cX0_keep 44 = .ok (.iload_n 1, 1) := by decide +kernel
theorem dX0_keep_45 : decode cX0_keep 45 = .ok (.iastore, 1) := by decide +kernel
theorem dX0_keep_46 : decode cX0_keep 46 = .ok (.aload_n 0, 1) := by decide +kernel
theorem dX0_keep_47 : decode cX0_keep 47 = .ok (.getfield 11, 3) := by decide +kernel
theorem dX0_keep_50 : decode cX0_keep 50 = .ok (.iload 6, 2) := by decide +kernel
theorem dX0_keep_52 : decode cX0_keep 52 = .ok (.iconst 1, 1) := by decide +kernel
theorem dX0_keep_53 : decode cX0_keep 53 = .ok (.iadd, 1) := by decide +kernel
theorem dX0_keep_54 : decode cX0_keep 54 = .ok (.iload_n 2, 1) := by decide +kernel
theorem dX0_keep_55 : decode cX0_keep 55 = .ok (.iastore, 1) := by decide +kernel
theorem dX0_keep_56 : decode cX0_keep 56 = .ok (.aload_n 0, 1) := by decide +kernel
theorem dX0_keep_57 : decode cX0_keep 57 = .ok (.getfield 11, 3) := by decide +kernel
theorem dX0_keep_60 : decode cX0_keep 60 = .ok (.iload 6, 2) := by decide +kernel
theorem dX0_keep_62 : decode cX0_keep 62 = .ok (.iconst 2, 1) := by decide +kernel
theorem dX0_keep_63 : decode cX0_keep 63 = .ok (.iadd, 1) := by decide +kernel
theorem dX0_keep_64 : decode cX0_keep 64 = .ok (.iload_n 3, 1) := by decide +kernel
theorem dX0_keep_65 : decode cX0_keep 65 = .ok (.iastore, 1) := by decide +kernel
theorem dX0_keep_66 : decode cX0_keep 66 = .ok (.aload_n 0, 1) := by decide +kernel
theorem dX0_keep_67 : decode cX0_keep 67 = .ok (.getfield 11, 3) := by decide +kernel
theorem dX0_keep_70 : decode cX0_keep 70 = .ok (.iload 6, 2) := by decide +kernel
theorem dX0_keep_72 : decode cX0_keep 72 = .ok (.iconst 3, 1) := by decide +kernel
theorem dX0_keep_73 : decode cX0_keep 73 = .ok (.iadd, 1) := by decide +kernel
theorem dX0_keep_74 : decode cX0_keep 74 = .ok (.iload 4, 2) := by decide +kernel
theorem dX0_keep_76 : decode cX0_keep 76 = .ok (.iastore, 1) := by decide +kernel
theorem dX0_keep_77 : decode cX0_keep 77 = .ok (.aload_n 0, 1) := by decide +kernel
theorem dX0_keep_78 : decode cX0_keep 78 = .ok (.getfield 11, 3) := by decide +kernel
theorem dX0_keep_81 : decode cX0_keep 81 = .ok (.iload 6, 2) := by decide +kernel
theorem dX0_keep_83 : decode cX0_keep 83 = .ok (.iconst 4, 1) := by decide +kernel
theorem dX0_keep_84 : decode cX0_keep 84 = .ok (.iadd, 1) := by decide +kernel
theorem dX0_keep_85 : decode cX0_keep 85 = .ok (.iload 5, 2) := by decide +kernel
theorem dX0_keep_87 : decode cX0_keep 87 = .ok (.iastore, 1) := by decide +kernel
theorem dX0_keep_88 : decode cX0_keep 88 = .ok (.aload_n 0, 1) := by decide +kernel
theorem dX0_keep_89 : decode cX0_keep 89 = .ok (.dup, 1) := by decide +kernel
theorem dX0_keep_90 : decode cX0_keep 90 = .ok (.getfield 15, 3) := by decide +kernel
theorem dX0_keep_93 : decode cX0_keep 93 = .ok (.iconst 1, 1) := by decide +kernel
theorem dX0_keep_94 : decode cX0_keep 94 = .ok (.iadd, 1) := by decide +kernel
theorem dX0_keep_95 : decode cX0_keep 95 = .ok (.putfield 15, 3) := by decide +kernel
theorem dX0_keep_98 : decode cX0_keep 98 = .ok (.return_, 1) := by decide +kernel
theorem dX0_takeBack_0 : decode cX0_takeBack 0 = .ok (.aload_n 0, 1) := by decide +kernel
theorem dX0_takeBack_1 : decode cX0_takeBack 1 = .ok (.getfield 15, 3) := by decide +kernel
theorem dX0_takeBack_4 : decode cX0_takeBack 4 = .ok (.ifCond .ne 4, 3) := by decide +kernel
theorem dX0_takeBack_7 : decode cX0_takeBack 7 = .ok (.return_, 1) := by decide +kernel
theorem dX0_takeBack_8 : decode cX0_takeBack 8 = .ok (.aload_n 0, 1) := by decide +kernel
theorem dX0_takeBack_9 : decode cX0_takeBack 9 = .ok (.dup, 1) := by decide +kernel
theorem dX0_takeBack_10 : decode cX0_takeBack 10 = .ok (.getfield 15, 3) := by decide +kernel
theorem dX0_takeBack_13 : decode cX0_takeBack 13 = .ok (.iconst 1, 1) := by decide +kernel
theorem dX0_takeBack_14 : decode cX0_takeBack 14 = .ok (.isub, 1) := by decide +kernel
theorem dX0_takeBack_15 : decode cX0_takeBack 15 = .ok (.putfield 15, 3) := by decide +kernel
theorem dX0_takeBack_18 : decode cX0_takeBack 18 = .ok (.aload_n 0, 1) := by decide +kernel
theorem dX0_takeBack_19 : decode cX0_takeBack 19 = .ok (.getfield 15, 3) := by decide +kernel
theorem dX0_takeBack_22 : decode cX0_takeBack 22 = .ok (.iconst 5, 1) := by decide +kernel
theorem dX0_takeBack_23 : decode cX0_takeBack 23 = .ok (.imul, 1) := by decide +kernel
theorem dX0_takeBack_24 : decode cX0_takeBack 24 = .ok (.istore_n 2, 1) := by decide +kernel
theorem dX0_takeBack_25 : decode cX0_takeBack 25 = .ok (.aload_n 0, 1) := by decide +kernel
theorem dX0_takeBack_26 : decode cX0_takeBack 26 = .ok (.getfield 11, 3) := by decide +kernel
theorem dX0_takeBack_29 : decode cX0_takeBack 29 = .ok (.iload_n 2, 1) := by decide +kernel
theorem dX0_takeBack_30 : decode cX0_takeBack 30 = .ok (.iaload, 1) := by decide +kernel
theorem dX0_takeBack_31 : decode cX0_takeBack 31 = .ok (.tableswitch 118 0 2 #[25, 56, 79], 25) := by decide +kernel
theorem dX0_takeBack_56 : decode cX0_takeBack 56 = .ok (.aload_n 1, 1) := by decide +kernel
theorem dX0_takeBack_57 : decode cX0_takeBack 57 = .ok (.aload_n 0, 1) := by decide +kernel
theorem dX0_takeBack_58 : decode cX0_takeBack 58 = .ok (.getfield 11, 3) := by decide +kernel
theorem dX0_takeBack_61 : decode cX0_takeBack 61 = .ok (.iload_n 2, 1) := by decide +kernel
theorem dX0_takeBack_62 : decode cX0_takeBack 62 = .ok (.iconst 1, 1) := by decide +kernel
theorem dX0_takeBack_63 : decode cX0_takeBack 63 = .ok (.iadd, 1) := by decide +kernel
theorem dX0_takeBack_64 : decode cX0_takeBack 64 = .ok (.iaload, 1) := by decide +kernel
theorem dX0_takeBack_65 : decode cX0_takeBack 65 = .ok (.aload_n 0, 1) := by decide +kernel
theorem dX0_takeBack_66 : decode cX0_takeBack 66 = .ok (.getfield 11, 3) := by decide +kernel
theorem dX0_takeBack_69 : decode cX0_takeBack 69 = .ok (.iload_n 2, 1) := by decide +kernel
theorem dX0_takeBack_70 : decode cX0_takeBack 70 = .ok (.iconst 2, 1) := by decide +kernel
theorem dX0_takeBack_71 : decode cX0_takeBack 71 = .ok (.iadd, 1) := by decide +kernel
theorem dX0_takeBack_72 : decode cX0_takeBack 72 = .ok (.iaload, 1) := by decide +kernel
theorem dX0_takeBack_73 : decode cX0_takeBack 73 = .ok (.aload_n 0, 1) := by decide +kernel
theorem dX0_takeBack_74 : decode cX0_takeBack 74 = .ok (.getfield 11, 3) := by decide +kernel
theorem dX0_takeBack_77 : decode cX0_takeBack 77 = .ok (.iload_n 2, 1) := by decide +kernel
theorem dX0_takeBack_78 : decode cX0_takeBack 78 = .ok (.iconst 3, 1) := by decide +kernel
theorem dX0_takeBack_79 : decode cX0_takeBack 79 = .ok (.iadd, 1) := by decide +kernel
theorem dX0_takeBack_80 : decode cX0_takeBack 80 = .ok (.iaload, 1) := by decide +kernel
theorem dX0_takeBack_81 : decode cX0_takeBack 81 = .ok (.invokevirtual 29, 3) := by decide +kernel
theorem dX0_takeBack_84 : decode cX0_takeBack 84 = .ok (.goto 85, 3) := by decide +kernel
theorem dX0_takeBack_87 : decode cX0_takeBack 87 = .ok (.aload_n 1, 1) := by decide +kernel
theorem dX0_takeBack_88 : decode cX0_takeBack 88 = .ok (.aload_n 0, 1) := by decide +kernel
theorem dX0_takeBack_89 : decode cX0_takeBack 89 = .ok (.getfield 11, 3) := by decide +kernel
theorem dX0_takeBack_92 : decode cX0_takeBack 92 = .ok (.iload_n 2, 1) := by decide +kernel
theorem dX0_takeBack_93 : decode cX0_takeBack 93 = .ok (.iconst 1, 1) := by decide +kernel
theorem dX0_takeBack_94 : decode cX0_takeBack 94 = .ok (.iadd, 1) := by decide +kernel
theorem dX0_takeBack_95 : decode cX0_takeBack 95 = .ok (.iaload, 1) := by decide +kernel
theorem dX0_takeBack_96 : decode cX0_takeBack 96 = .ok (.aload_n 0, 1) := by decide +kernel
theorem dX0_takeBack_97 : decode cX0_takeBack 97 = .ok (.getfield 11, 3) := by decide +kernel
theorem dX0_takeBack_100 : decode cX0_takeBack 100 = .ok (.iload_n 2, 1) := by decide +kernel
theorem dX0_takeBack_101 : decode cX0_takeBack 101 = .ok (.iconst 2, 1) := by decide +kernel
theorem dX0_takeBack_102 : decode cX0_takeBack 102 = .ok (.iadd, 1) := by decide +kernel
theorem dX0_takeBack_103 : decode cX0_takeBack 103 = .ok (.iaload, 1) := by decide +kernel
theorem dX0_takeBack_104 : decode cX0_takeBack 104 = .ok (.invokevirtual 35, 3) := by decide +kernel
theorem dX0_takeBack_107 : decode cX0_takeBack 107 = .ok (.goto 62, 3) := by decide +kernel
theorem dX0_takeBack_110 : decode cX0_takeBack 110 = .ok (.aload_n 1, 1) := by decide +kernel
theorem dX0_takeBack_111 : decode cX0_takeBack 111 = .ok (.aload_n 0, 1) := by decide +kernel
theorem dX0_takeBack_112 : decode cX0_takeBack 112 = .ok (.getfield 11, 3) := by decide +kernel
theorem dX0_takeBack_115 : decode cX0_takeBack 115 = .ok (.iload_n 2, 1) := by decide +kernel
theorem dX0_takeBack_116 : decode cX0_takeBack 116 = .ok (.iconst 1, 1) := by decide +kernel
theorem dX0_takeBack_117 : decode cX0_takeBack 117 = .ok (.iadd, 1) := by decide +kernel
theorem dX0_takeBack_118 : decode cX0_takeBack 118 = .ok (.iaload, 1) := by decide +kernel
theorem dX0_takeBack_119 : decode cX0_takeBack 119 = .ok (.aload_n 0, 1) := by decide +kernel
theorem dX0_takeBack_120 : decode cX0_takeBack 120 = .ok (.getfield 11, 3) := by decide +kernel
theorem dX0_takeBack_123 : decode cX0_takeBack 123 = .ok (.iload_n 2, 1) := by decide +kernel
theorem dX0_takeBack_124 : decode cX0_takeBack 124 = .ok (.iconst 2, 1) := by decide +kernel
theorem dX0_takeBack_125 : decode cX0_takeBack 125 = .ok (.iadd, 1) := by decide +kernel
theorem dX0_takeBack_126 : decode cX0_takeBack 126 = .ok (.iaload, 1) := by decide +kernel
theorem dX0_takeBack_127 : decode cX0_takeBack 127 = .ok (.aload_n 0, 1) := by decide +kernel
theorem dX0_takeBack_128 : decode cX0_takeBack 128 = .ok (.getfield 11, 3) := by decide +kernel
theorem dX0_takeBack_131 : decode cX0_takeBack 131 = .ok (.iload_n 2, 1) := by decide +kernel
theorem dX0_takeBack_132 : decode cX0_takeBack 132 = .ok (.iconst 3, 1) := by decide +kernel
theorem dX0_takeBack_133 : decode cX0_takeBack 133 = .ok (.iadd, 1) := by decide +kernel
theorem dX0_takeBack_134 : decode cX0_takeBack 134 = .ok (.iaload, 1) := by decide +kernel
theorem dX0_takeBack_135 : decode cX0_takeBack 135 = .ok (.aload_n 0, 1) := by decide +kernel
theorem dX0_takeBack_136 : decode cX0_takeBack 136 = .ok (.getfield 11, 3) := by decide +kernel
theorem dX0_takeBack_139 : decode cX0_takeBack 139 = .ok (.iload_n 2, 1) := by decide +kernel
theorem dX0_takeBack_140 : decode cX0_takeBack 140 = .ok (.iconst 4, 1) := by decide +kernel
theorem dX0_takeBack_141 : decode cX0_takeBack 141 = .ok (.iadd, 1) := by decide +kernel
theorem dX0_takeBack_142 : decode cX0_takeBack 142 = .ok (.iaload, 1) := by decide +kernel
theorem dX0_takeBack_143 : decode cX0_takeBack 143 = .ok (.invokevirtual 39, 3) := by decide +kernel
theorem dX0_takeBack_146 : decode cX0_takeBack 146 = .ok (.goto 23, 3) := by decide +kernel
theorem dX0_takeBack_149 : decode cX0_takeBack 149 = .ok (.aload_n 1, 1) := by decide +kernel
theorem dX0_takeBack_150 : decode cX0_takeBack 150 = .ok (.aload_n 0, 1) := by decide +kernel
theorem dX0_takeBack_151 : decode cX0_takeBack 151 = .ok (.getfield 11, 3) := by decide +kernel
theorem dX0_takeBack_154 : decode cX0_takeBack 154 = .ok (.iload_n 2, 1) := by decide +kernel
theorem dX0_takeBack_155 : decode cX0_takeBack 155 = .ok (.iconst 1, 1) := by decide +kernel
theorem dX0_takeBack_156 : decode cX0_takeBack 156 = .ok (.iadd, 1) := by decide +kernel
theorem dX0_takeBack_157 : decode cX0_takeBack 157 = .ok (.iaload, 1) := by decide +kernel
theorem dX0_takeBack_158 : decode cX0_takeBack 158 = .ok (.aload_n 0, 1) := by decide +kernel
theorem dX0_takeBack_159 : decode cX0_takeBack 159 = .ok (.getfield 11, 3) := by decide +kernel
theorem dX0_takeBack_162 : decode cX0_takeBack 162 = .ok (.iload_n 2, 1) := by decide +kernel
theorem dX0_takeBack_163 : decode cX0_takeBack 163 = .ok (.iconst 2, 1) := by decide +kernel
theorem dX0_takeBack_164 : decode cX0_takeBack 164 = .ok (.iadd, 1) := by decide +kernel
theorem dX0_takeBack_165 : decode cX0_takeBack 165 = .ok (.iaload, 1) := by decide +kernel
theorem dX0_takeBack_166 : decode cX0_takeBack 166 = .ok (.invokevirtual 43, 3) := by decide +kernel
theorem dX0_takeBack_169 : decode cX0_takeBack 169 = .ok (.return_, 1) := by decide +kernel
end
section
theorem dX1_init_0 : decode cX1_init 0 = .ok (.aload_n 0, 1) := by decide +kernel
theorem dX1_init_1 : decode cX1_init 1 = .ok (.invokespecial 3, 3) := by decide +kernel
theorem dX1_init_4 : decode cX1_init 4 = .ok (.aload_n 0, 1) := by decide +kernel
theorem dX1_init_5 : decode cX1_init 5 = .ok (.bipush 16, 2) := by decide +kernel
theorem dX1_init_7 : decode cX1_init 7 = .ok (.newarray .int, 2) := by decide +kernel
theorem dX1_init_9 : decode cX1_init 9 = .ok (.putfield 9, 3) := by decide +kernel
theorem dX1_init_12 : decode cX1_init 12 = .ok (.aload_n 0, 1) := by decide +kernel
theorem dX1_init_13 : decode cX1_init 13 = .ok (.iconst 0, 1) := by decide +kernel
theorem dX1_init_14 : decode cX1_init 14 = .ok (.putfield 15, 3) := by decide +kernel
theorem dX1_init_17 : decode cX1_init 17 = .ok (.aload_n 0, 1) := by decide +kernel
theorem dX1_init_18 : decode cX1_init 18 = .ok (.aload_n 1, 1) := by decide +kernel
theorem dX1_init_19 : decode cX1_init 19 = .ok (.putfield 19, 3) := by decide +kernel
theorem dX1_init_22 : decode cX1_init 22 = .ok (.return_, 1) := by decide +kernel
theorem dX1_traced_0 : decode cX1_traced 0 = .ok (.iload_n 1, 1) := by decide +kernel
theorem dX1_traced_1 : decode cX1_traced 1 = .ok (.ifCond .lt 20, 3) := by decide +kernel
theorem dX1_traced_4 : decode cX1_traced 4 = .ok (.iload_n 1, 1) := by decide +kernel
theorem dX1_traced_5 : decode cX1_traced 5 = .ok (.aload_n 0, 1) := by decide +kernel
theorem dX1_traced_6 : decode cX1_traced 6 = .ok (.getfield 15, 3) := by decide +kernel
theorem dX1_traced_9 : decode cX1_traced 9 = .ok (.if_icmp .ge 12, 3) := by decide +kernel
theorem dX1_traced_12 : decode cX1_traced 12 = .ok (.aload_n 0, 1) := by decide +kernel
theorem dX1_traced_13 : decode cX1_traced 13 = .ok (.getfield 9, 3) := by decide +kernel
theorem dX1_traced_16 : decode cX1_traced 16 = .ok (.iload_n 1, 1) := by decide +kernel
theorem dX1_traced_17 : decode cX1_traced 17 = .ok (.iaload, 1) := by decide +kernel
theorem dX1_traced_18 : decode cX1_traced 18 = .ok (.goto 5, 3) := by decide +kernel
theorem dX1_traced_21 : decode cX1_traced 21 = .ok (.ldc 23, 2) := by decide +kernel
theorem dX1_traced_23 : decode cX1_traced 23 = .ok (.ireturn, 1) := by decide +kernel
theorem dX1_answer_0 : decode cX1_answer 0 = .ok (.aload_n 0, 1) := by decide +kernel
theorem dX1_answer_1 : decode cX1_answer 1 = .ok (.iconst 0, 1) := by decide +kernel
theorem dX1_answer_2 : decode cX1_answer 2 = .ok (.putfield 15, 3) := by decide +kernel
theorem dX1_answer_5 : decode cX1_answer 5 = .ok (.aload_n 0, 1) := by decide +kernel
theorem dX1_answer_6 : decode cX1_answer 6 = .ok (.iload_n 2, 1) := by decide +kernel
theorem dX1_answer_7 : decode cX1_answer 7 = .ok (.iload_n 1, 1) := by decide +kernel
theorem dX1_answer_8 : decode cX1_answer 8 = .ok (.invokevirtual 24, 3) := by decide +kernel
theorem dX1_answer_11 : decode cX1_answer 11 = .ok (.ireturn, 1) := by decide +kernel
theorem dX1_begin_0 : decode cX1_begin 0 = .ok (.aload_n 0, 1) := by decide +kernel
theorem dX1_begin_1 : decode cX1_begin 1 = .ok (.getfield 19, 3) := by decide +kernel
theorem dX1_begin_4 : decode cX1_begin 4 = .ok (.iload_n 2, 1) := by decide +kernel
theorem dX1_begin_5 : decode cX1_begin 5 = .ok (.iconst 5, 1) := by decide +kernel
theorem dX1_begin_6 : decode cX1_begin 6 = .ok (.invokevirtual 28, 3) := by decide +kernel
theorem dX1_begin_9 : decode cX1_begin 9 = .ok (.istore_n 3, 1) := by decide +kernel
theorem dX1_begin_10 : decode cX1_begin 10 = .ok (.iload_n 1, 1) := by decide +kernel
theorem dX1_begin_11 : decode cX1_begin 11 = .ok (.ifCond .ne 16, 3) := by decide +kernel
theorem dX1_begin_14 : decode cX1_begin 14 = .ok (.aload_n 0, 1) := by decide +kernel
theorem dX1_begin_15 : decode cX1_begin 15 = .ok (.getstatic 33, 3) := by decide +kernel
theorem dX1_begin_18 : decode cX1_begin 18 = .ok (.iload_n 3, 1) := by decide +kernel
theorem dX1_begin_19 : decode cX1_begin 19 = .ok (.iaload, 1) := by decide +kernel
theorem dX1_begin_20 : decode cX1_begin 20 = .ok (.iload_n 2, 1) := by decide +kernel
theorem dX1_begin_21 : decode cX1_begin 21 = .ok (.invokevirtual 36, 3) := by decide +kernel
theorem dX1_begin_24 : decode cX1_begin 24 = .ok (.goto 13, 3) := by decide +kernel
theorem dX1_begin_27 : decode cX1_begin 27 = .ok (.aload_n 0, 1) := by decide +kernel
theorem dX1_begin_28 : decode cX1_begin 28 = .ok (.getstatic 39, 3) := by decide +kernel
theorem dX1_begin_31 : decode cX1_begin 31 = .ok (.iload_n 3, 1) := by decide +kernel
theorem dX1_begin_32 : decode cX1_begin 32 = .ok (.iaload, 1) := by decide +kernel
theorem dX1_begin_33 : decode cX1_begin 33 = .ok (.iload_n 2, 1) := by decide +kernel
theorem dX1_begin_34 : decode cX1_begin 34 = .ok (.invokevirtual 42, 3) := by decide +kernel
theorem dX1_begin_37 : decode cX1_begin 37 = .ok (.ireturn, 1) := by decide +kernel
theorem dX1_leave_0 : decode cX1_leave 0 = .ok (.aload_n 0, 1) := by decide +kernel
theorem dX1_leave_1 : decode cX1_leave 1 = .ok (.getfield 15, 3) := by decide +kernel
theorem dX1_leave_4 : decode cX1_leave 4 = .ok (.bipush 16, 2) := by decide +kernel
theorem dX1_leave_6 : decode cX1_leave 6 = .ok (.if_icmp .ge 23, 3) := by decide +kernel
theorem dX1_leave_9 : decode cX1_leave 9 = .ok (.aload_n 0, 1) := by decide +kernel
theorem dX1_leave_10 : decode cX1_leave 10 = .ok (.getfield 9, 3) := by decide +kernel
theorem dX1_leave_13 : decode cX1_leave 13 = .ok (.aload_n 0, 1) := by decide +kernel
theorem dX1_leave_14 : decode cX1_leave 14 = .ok (.getfield 15, 3) := by decide +kernel
theorem dX1_leave_17 : decode cX1_leave 17 = .ok (.iload_n 1, 1) := by decide +kernel
theorem dX1_leave_18 : decode cX1_leave 18 = .ok (.iastore, 1) := by decide +kernel
theorem dX1_leave_19 : decode cX1_leave 19 = .ok (.aload_n 0, 1) := by decide +kernel
theorem dX1_leave_20 : decode cX1_leave 20 = .ok (.dup, 1) := by decide +kernel
theorem dX1_leave_21 : decode cX1_leave 21 = .ok (.getfield 15, 3) := by decide +kernel
theorem dX1_leave_24 : decode cX1_leave 24 = .ok (.iconst 1, 1) := by decide +kernel
theorem dX1_leave_25 : decode cX1_leave 25 = .ok (.iadd, 1) := by decide +kernel
theorem dX1_leave_26 : decode cX1_leave 26 = .ok (.putfield 15, 3) := by decide +kernel
theorem dX1_leave_29 : decode cX1_leave 29 = .ok (.return_, 1) := by decide +kernel
theorem dX1_sizeBy_0 : decode cX1_sizeBy 0 = .ok (.aload_n 0, 1) := by decide +kernel
theorem dX1_sizeBy_1 : decode cX1_sizeBy 1 = .ok (.iload_n 1, 1) := by decide +kernel
theorem dX1_sizeBy_2 : decode cX1_sizeBy 2 = .ok (.invokevirtual 45, 3) := by decide +kernel
theorem dX1_sizeBy_5 : decode cX1_sizeBy 5 = .ok (.iload_n 1, 1) := by decide +kernel
theorem dX1_sizeBy_6 : decode cX1_sizeBy 6 = .ok (.tableswitch 75 11 14 #[30, 45, 54, 65], 30) := by decide +kernel
theorem dX1_sizeBy_36 : decode cX1_sizeBy 36 = .ok (.aload_n 0, 1) := by decide +kernel
theorem dX1_sizeBy_37 : decode cX1_sizeBy 37 = .ok (.bipush 10, 2) := by decide +kernel
theorem dX1_sizeBy_39 : decode cX1_sizeBy 39 = .ok (.iload_n 2, 1) := by decide +kernel
theorem dX1_sizeBy_40 : decode cX1_sizeBy 40 = .ok (.invokevirtual 36, 3) := by decide +kernel
theorem dX1_sizeBy_43 : decode cX1_sizeBy 43 = .ok (.aload_n 0, 1) := by decide +kernel
theorem dX1_sizeBy_44 : decode cX1_sizeBy 44 = .ok (.iconst 1, 1) := by decide +kernel
theorem dX1_sizeBy_45 : decode cX1_sizeBy 45 = .ok (.iload_n 2, 1) := by decide +kernel
theorem dX1_sizeBy_46 : decode cX1_sizeBy 46 = .ok (.invokevirtual 24, 3) := by decide +kernel
theorem dX1_sizeBy_49 : decode cX1_sizeBy 49 = .ok (.iadd, 1) := by decide +kernel
theorem dX1_sizeBy_50 : decode cX1_sizeBy 50 = .ok (.ireturn, 1) := by decide +kernel
theorem dX1_sizeBy_51 : decode cX1_sizeBy 51 = .ok (.aload_n 0, 1) := by decide +kernel
theorem dX1_sizeBy_52 : decode cX1_sizeBy 52 = .ok (.bipush 11, 2) := by decide +kernel
theorem dX1_sizeBy_54 : decode cX1_sizeBy 54 = .ok (.iload_n 2, 1) := by decide +kernel
theorem dX1_sizeBy_55 : decode cX1_sizeBy 55 = .ok (.invokevirtual 36, 3) := by decide +kernel
theorem dX1_sizeBy_58 : decode cX1_sizeBy 58 = .ok (.ineg, 1) := by decide +kernel
theorem dX1_sizeBy_59 : decode cX1_sizeBy 59 = .ok (.ireturn, 1) := by decide +kernel
theorem dX1_sizeBy_60 : decode cX1_sizeBy 60 = .ok (.aload_n 0, 1) := by decide +kernel
theorem dX1_sizeBy_61 : decode cX1_sizeBy 61 = .ok (.bipush 10, 2) := by decide +kernel
theorem dX1_sizeBy_63 : decode cX1_sizeBy 63 = .ok (.iload_n 2, 1) := by decide +kernel
theorem dX1_sizeBy_64 : decode cX1_sizeBy 64 = .ok (.invokevirtual 36, 3) := by decide +kernel
theorem dX1_sizeBy_67 : decode cX1_sizeBy 67 = .ok (.bipush 100, 2) := by decide +kernel
theorem dX1_sizeBy_69 : decode cX1_sizeBy 69 = .ok (.isub, 1) := by decide +kernel
theorem dX1_sizeBy_70 : decode cX1_sizeBy 70 = .ok (.ireturn, 1) := by decide +kernel
theorem dX1_sizeBy_71 : decode cX1_sizeBy 71 = .ok (.iconst 2, 1) := by decide +kernel
theorem dX1_sizeBy_72 : decode cX1_sizeBy 72 = .ok (.aload_n 0, 1) := by decide +kernel
theorem dX1_sizeBy_73 : decode cX1_sizeBy 73 = .ok (.bipush 13, 2) := by decide +kernel
theorem dX1_sizeBy_75 : decode cX1_sizeBy 75 = .ok (.iload_n 2, 1) := by decide +kernel
theorem dX1_sizeBy_76 : decode cX1_sizeBy 76 = .ok (.invokevirtual 36, 3) := by decide +kernel
theorem dX1_sizeBy_79 : decode cX1_sizeBy 79 = .ok (.imul, 1) := by decide +kernel
theorem dX1_sizeBy_80 : decode cX1_sizeBy 80 = .ok (.ireturn, 1) := by decide +kernel
theorem dX1_sizeBy_81 : decode cX1_sizeBy 81 = .ok (.aload_n 0, 1) := by decide +kernel
theorem dX1_sizeBy_82 : decode cX1_sizeBy 82 = .ok (.getfield 19, 3) := by decide +kernel
theorem dX1_sizeBy_85 : decode cX1_sizeBy 85 = .ok (.iload_n 2, 1) := by decide +kernel
theorem dX1_sizeBy_86 : decode cX1_sizeBy 86 = .ok (.iconst 0, 1) := by decide +kernel
theorem dX1_sizeBy_87 : decode cX1_sizeBy 87 = .ok (.invokevirtual 28, 3) := by decide +kernel
theorem dX1_sizeBy_90 : decode cX1_sizeBy 90 = .ok (.ireturn, 1) := by decide +kernel
theorem dX1_markBy_0 : decode cX1_markBy 0 = .ok (.aload_n 0, 1) := by decide +kernel
theorem dX1_markBy_1 : decode cX1_markBy 1 = .ok (.iload_n 1, 1) := by decide +kernel
theorem dX1_markBy_2 : decode cX1_markBy 2 = .ok (.invokevirtual 45, 3) := by decide +kernel
theorem dX1_markBy_5 : decode cX1_markBy 5 = .ok (.iload_n 1, 1) := by decide +kernel
theorem dX1_markBy_6 : decode cX1_markBy 6 = .ok (.tableswitch 84 21 24 #[30, 47, 59, 74], 30) := by decide +kernel
theorem dX1_markBy_36 : decode cX1_markBy 36 = .ok (.aload_n 0, 1) := by decide +kernel
theorem dX1_markBy_37 : decode cX1_markBy 37 = .ok (.bipush 20, 2) := by decide +kernel
theorem dX1_markBy_39 : decode cX1_markBy 39 = .ok (.iload_n 2, 1) := by decide +kernel
theorem dX1_markBy_40 : decode cX1_markBy 40 = .ok (.invokevirtual 42, 3) := by decide +kernel
theorem dX1_markBy_43 : decode cX1_markBy 43 = .ok (.aload_n 0, 1) := by decide +kernel
theorem dX1_markBy_44 : decode cX1_markBy 44 = .ok (.getfield 19, 3) := by decide +kernel
theorem dX1_markBy_47 : decode cX1_markBy 47 = .ok (.iload_n 2, 1) := by decide +kernel
theorem dX1_markBy_48 : decode cX1_markBy 48 = .ok (.invokevirtual 49, 3) := by decide +kernel
theorem dX1_markBy_51 : decode cX1_markBy 51 = .ok (.iadd, 1) := by decide +kernel
theorem dX1_markBy_52 : decode cX1_markBy 52 = .ok (.ireturn, 1) := by decide +kernel
theorem dX1_markBy_53 : decode cX1_markBy 53 = .ok (.aload_n 0, 1) := by decide +kernel
theorem dX1_markBy_54 : decode cX1_markBy 54 = .ok (.bipush 21, 2) := by decide +kernel
theorem dX1_markBy_56 : decode cX1_markBy 56 = .ok (.iload_n 2, 1) := by decide +kernel
theorem dX1_markBy_57 : decode cX1_markBy 57 = .ok (.invokevirtual 42, 3) := by decide +kernel
theorem dX1_markBy_60 : decode cX1_markBy 60 = .ok (.sipush 1000, 3) := by decide +kernel
theorem dX1_markBy_63 : decode cX1_markBy 63 = .ok (.isub, 1) := by decide +kernel
theorem dX1_markBy_64 : decode cX1_markBy 64 = .ok (.ireturn, 1) := by decide +kernel
theorem dX1_markBy_65 : decode cX1_markBy 65 = .ok (.aload_n 0, 1) := by decide +kernel
theorem dX1_markBy_66 : decode cX1_markBy 66 = .ok (.bipush 20, 2) := by decide +kernel
theorem dX1_markBy_68 : decode cX1_markBy 68 = .ok (.iload_n 2, 1) := by decide +kernel
theorem dX1_markBy_69 : decode cX1_markBy 69 = .ok (.invokevirtual 42, 3) := by decide +kernel
theorem dX1_markBy_72 : decode cX1_markBy 72 = .ok (.aload_n 0, 1) := by decide +kernel
theorem dX1_markBy_73 : decode cX1_markBy 73 = .ok (.iconst 0, 1) := by decide +kernel
theorem dX1_markBy_74 : decode cX1_markBy 74 = .ok (.iload_n 2, 1) := by decide +kernel
theorem dX1_markBy_75 : decode cX1_markBy 75 = .ok (.invokevirtual 24, 3) := by decide +kernel
theorem dX1_markBy_78 : decode cX1_markBy 78 = .ok (.isub, 1) := by decide +kernel
theorem dX1_markBy_79 : decode cX1_markBy 79 = .ok (.ireturn, 1) := by decide +kernel
theorem dX1_markBy_80 : decode cX1_markBy 80 = .ok (.iconst 2, 1) := by decide +kernel
theorem dX1_markBy_81 : decode cX1_markBy 81 = .ok (.aload_n 0, 1) := by decide +kernel
theorem dX1_markBy_82 : decode cX1_markBy 82 = .ok (.bipush 21, 2) := by decide +kernel
theorem dX1_markBy_84 : decode cX1_markBy 84 = .ok (.iload_n 2, 1) := by decide +kernel
theorem dX1_markBy_85 : decode cX1_markBy 85 = .ok (.invokevirtual 42, 3) := by decide +kernel
theorem dX1_markBy_88 : decode cX1_markBy 88 = .ok (.imul, 1) := by decide +kernel
theorem dX1_markBy_89 : decode cX1_markBy 89 = .ok (.ireturn, 1) := by decide +kernel
theorem dX1_markBy_90 : decode cX1_markBy 90 = .ok (.iload_n 2, 1) := by decide +kernel
theorem dX1_markBy_91 : decode cX1_markBy 91 = .ok (.ireturn, 1) := by decide +kernel
end
section
theorem dX2_init_0 : decode cX2_init 0 = .ok (.aload_n 0, 1) := by decide +kernel
theorem dX2_init_1 : decode cX2_init 1 = .ok (.invokespecial 3, 3) := by decide +kernel
theorem dX2_init_4 : decode cX2_init 4 = .ok (.aload_n 0, 1) := by decide +kernel
theorem dX2_init_5 : decode cX2_init 5 = .ok (.bipush 40, 2) := by decide +kernel
theorem dX2_init_7 : decode cX2_init 7 = .ok (.newarray .int, 2) := by decide +kernel
theorem dX2_init_9 : decode cX2_init 9 = .ok (.putfield 9, 3) := by decide +kernel
theorem dX2_init_12 : decode cX2_init 12 = .ok (.aload_n 0, 1) := by decide +kernel
theorem dX2_init_13 : decode cX2_init 13 = .ok (.iconst 0, 1) := by decide +kernel
theorem dX2_init_14 : decode cX2_init 14 = .ok (.putfield 15, 3) := by decide +kernel
theorem dX2_init_17 : decode cX2_init 17 = .ok (.aload_n 0, 1) := by decide +kernel
theorem dX2_init_18 : decode cX2_init 18 = .ok (.iconst (-1), 1) := by decide +kernel
theorem dX2_init_19 : decode cX2_init 19 = .ok (.putfield 19, 3) := by decide +kernel
theorem dX2_init_22 : decode cX2_init 22 = .ok (.return_, 1) := by decide +kernel
theorem dX2_isMissing_0 : decode cX2_isMissing 0 = .ok (.aload_n 0, 1) := by decide +kernel
theorem dX2_isMissing_1 : decode cX2_isMissing 1 = .ok (.getfield 19, 3) := by decide +kernel
theorem dX2_isMissing_4 : decode cX2_isMissing 4 = .ok (.iconst (-1), 1) := by decide +kernel
theorem dX2_isMissing_5 : decode cX2_isMissing 5 = .ok (.if_icmp .ne 7, 3) := by decide +kernel
theorem dX2_isMissing_8 : decode cX2_isMissing 8 = .ok (.iconst 1, 1) := by decide +kernel
theorem dX2_isMissing_9 : decode cX2_isMissing 9 = .ok (.goto 4, 3) := by decide +kernel
theorem dX2_isMissing_12 : decode cX2_isMissing 12 = .ok (.iconst 0, 1) := by decide +kernel
theorem dX2_isMissing_13 : decode cX2_isMissing 13 = .ok (.ireturn, 1) := by decide +kernel
theorem dX2_size_0 : decode cX2_size 0 = .ok (.aload_n 0, 1) := by decide +kernel
theorem dX2_size_1 : decode cX2_size 1 = .ok (.getfield 19, 3) := by decide +kernel
theorem dX2_size_4 : decode cX2_size 4 = .ok (.ireturn, 1) := by decide +kernel
theorem dX2_lane_0 : decode cX2_lane 0 = .ok (.aload_n 0, 1) := by decide +kernel
theorem dX2_lane_1 : decode cX2_lane 1 = .ok (.getfield 15, 3) := by decide +kernel
theorem dX2_lane_4 : decode cX2_lane 4 = .ok (.ireturn, 1) := by decide +kernel
theorem dX2_item_0 : decode cX2_item 0 = .ok (.aload_n 0, 1) := by decide +kernel
theorem dX2_item_1 : decode cX2_item 1 = .ok (.getfield 9, 3) := by decide +kernel
theorem dX2_item_4 : decode cX2_item 4 = .ok (.iload_n 1, 1) := by decide +kernel
theorem dX2_item_5 : decode cX2_item 5 = .ok (.iaload, 1) := by decide +kernel
theorem dX2_item_6 : decode cX2_item 6 = .ok (.ireturn, 1) := by decide +kernel
theorem dX2_make_0 : decode cX2_make 0 = .ok (.aload_n 0, 1) := by decide +kernel
theorem dX2_make_1 : decode cX2_make 1 = .ok (.iload_n 1, 1) := by decide +kernel
theorem dX2_make_2 : decode cX2_make 2 = .ok (.putfield 15, 3) := by decide +kernel
theorem dX2_make_5 : decode cX2_make 5 = .ok (.aload_n 0, 1) := by decide +kernel
theorem dX2_make_6 : decode cX2_make 6 = .ok (.iload_n 2, 1) := by decide +kernel
theorem dX2_make_7 : decode cX2_make 7 = .ok (.putfield 19, 3) := by decide +kernel
theorem dX2_make_10 : decode cX2_make 10 = .ok (.iconst 0, 1) := by decide +kernel
theorem dX2_make_11 : decode cX2_make 11 = .ok (.istore_n 3, 1) := by decide +kernel
theorem dX2_make_12 : decode cX2_make 12 = .ok (.iload_n 3, 1) := by decide +kernel
theorem dX2_make_13 : decode cX2_make 13 = .ok (.iload_n 2, 1) := by decide +kernel
theorem dX2_make_14 : decode cX2_make 14 = .ok (.if_icmp .ge 16, 3) := by decide +kernel
theorem dX2_make_17 : decode cX2_make 17 = .ok (.aload_n 0, 1) := by decide +kernel
theorem dX2_make_18 : decode cX2_make 18 = .ok (.getfield 9, 3) := by decide +kernel
theorem dX2_make_21 : decode cX2_make 21 = .ok (.iload_n 3, 1) := by decide +kernel
theorem dX2_make_22 : decode cX2_make 22 = .ok (.iconst 0, 1) := by decide +kernel
theorem dX2_make_23 : decode cX2_make 23 = .ok (.iastore, 1) := by decide +kernel
theorem dX2_make_24 : decode cX2_make 24 = .ok (.iinc 3 1, 3) := by decide +kernel
theorem dX2_make_27 : decode cX2_make 27 = .ok (.goto (-15), 3) := by decide +kernel
theorem dX2_make_30 : decode cX2_make 30 = .ok (.return_, 1) := by decide +kernel
theorem dX2_lose_0 : decode cX2_lose 0 = .ok (.aload_n 0, 1) := by decide +kernel
theorem dX2_lose_1 : decode cX2_lose 1 = .ok (.iconst (-1), 1) := by decide +kernel
theorem dX2_lose_2 : decode cX2_lose 2 = .ok (.putfield 19, 3) := by decide +kernel
theorem dX2_lose_5 : decode cX2_lose 5 = .ok (.return_, 1) := by decide +kernel
theorem dX2_put_0 : decode cX2_put 0 = .ok (.aload_n 0, 1) := by decide +kernel
theorem dX2_put_1 : decode cX2_put 1 = .ok (.getfield 9, 3) := by decide +kernel
theorem dX2_put_4 : decode cX2_put 4 = .ok (.iload_n 1, 1) := by decide +kernel
theorem dX2_put_5 : decode cX2_put 5 = .ok (.aload_n 0, 1) := by decide +kernel
theorem dX2_put_6 : decode cX2_put 6 = .ok (.getfield 15, 3) := by decide +kernel
theorem dX2_put_9 : decode cX2_put 9 = .ok (.ifCond .ne 8, 3) := by decide +kernel
theorem dX2_put_12 : decode cX2_put 12 = .ok (.iload_n 2, 1) := by decide +kernel
theorem dX2_put_13 : decode cX2_put 13 = .ok (.i2b, 1) := by decide +kernel
theorem dX2_put_14 : decode cX2_put 14 = .ok (.goto 17, 3) := by decide +kernel
theorem dX2_put_17 : decode cX2_put 17 = .ok (.aload_n 0, 1) := by decide +kernel
theorem dX2_put_18 : decode cX2_put 18 = .ok (.getfield 15, 3) := by decide +kernel
theorem dX2_put_21 : decode cX2_put 21 = .ok (.iconst 1, 1) := by decide +kernel
theorem dX2_put_22 : decode cX2_put 22 = .ok (.if_icmp .ne 8, 3) := by decide +kernel
theorem dX2_put_25 : decode cX2_put 25 = .ok (.iload_n 2, 1) := by decide +kernel
theorem dX2_put_26 : decode cX2_put 26 = .ok (.i2s, 1) := by decide +kernel
theorem dX2_put_27 : decode cX2_put 27 = .ok (.goto 4, 3) := by decide +kernel
theorem dX2_put_30 : decode cX2_put 30 = .ok (.iload_n 2, 1) := by decide +kernel
theorem dX2_put_31 : decode cX2_put 31 = .ok (.iastore, 1) := by decide +kernel
theorem dX2_put_32 : decode cX2_put 32 = .ok (.aload_n 0, 1) := by decide +kernel
theorem dX2_put_33 : decode cX2_put 33 = .ok (.getfield 9, 3) := by decide +kernel
theorem dX2_put_36 : decode cX2_put 36 = .ok (.iload_n 1, 1) := by decide +kernel
theorem dX2_put_37 : decode cX2_put 37 = .ok (.iaload, 1) := by decide +kernel
theorem dX2_put_38 : decode cX2_put 38 = .ok (.ireturn, 1) := by decide +kernel
theorem dX2_holds_0 : decode cX2_holds 0 = .ok (.iload_n 1, 1) := by decide +kernel
theorem dX2_holds_1 : decode cX2_holds 1 = .ok (.ifCond .lt 29, 3) := by decide +kernel
theorem dX2_holds_4 : decode cX2_holds 4 = .ok (.iload_n 2, 1) := by decide +kernel
theorem dX2_holds_5 : decode cX2_holds 5 = .ok (.ifCond .lt 25, 3) := by decide +kernel
theorem dX2_holds_8 : decode cX2_holds 8 = .ok (.iload_n 1, 1) := by decide +kernel
theorem dX2_holds_9 : decode cX2_holds 9 = .ok (.aload_n 0, 1) := by decide +kernel
theorem dX2_holds_10 : decode cX2_holds 10 = .ok (.getfield 19, 3) := by decide +kernel
theorem dX2_holds_13 : decode cX2_holds 13 = .ok (.if_icmp .gt 17, 3) := by decide +kernel
theorem dX2_holds_16 : decode cX2_holds 16 = .ok (.iload_n 2, 1) := by decide +kernel
theorem dX2_holds_17 : decode cX2_holds 17 = .ok (.aload_n 0, 1) := by decide +kernel
theorem dX2_holds_18 : decode cX2_holds 18 = .ok (.getfield 19, 3) := by decide +kernel
theorem dX2_holds_21 : decode cX2_holds 21 = .ok (.iload_n 1, 1) := by decide +kernel
theorem dX2_holds_22 : decode cX2_holds 22 = .ok (.isub, 1) := by decide +kernel
theorem dX2_holds_23 : decode cX2_holds 23 = .ok (.if_icmp .gt 7, 3) := by decide +kernel
theorem dX2_holds_26 : decode cX2_holds 26 = .ok (.iconst 1, 1) := by decide +kernel
theorem dX2_holds_27 : decode cX2_holds 27 = .ok (.goto 4, 3) := by decide +kernel
theorem dX2_holds_30 : decode cX2_holds 30 = .ok (.iconst 0, 1) := by decide +kernel
theorem dX2_holds_31 : decode cX2_holds 31 = .ok (.ireturn, 1) := by decide +kernel
theorem dX2_take_0 : decode cX2_take 0 = .ok (.aload_n 1, 1) := by decide +kernel
theorem dX2_take_1 : decode cX2_take 1 = .ok (.getfield 9, 3) := by decide +kernel
theorem dX2_take_4 : decode cX2_take 4 = .ok (.iload_n 2, 1) := by decide +kernel
theorem dX2_take_5 : decode cX2_take 5 = .ok (.aload_n 0, 1) := by decide +kernel
theorem dX2_take_6 : decode cX2_take 6 = .ok (.getfield 9, 3) := by decide +kernel
theorem dX2_take_9 : decode cX2_take 9 = .ok (.iload_n 3, 1) := by decide +kernel
theorem dX2_take_10 : decode cX2_take 10 = .ok (.iload 4, 2) := by decide +kernel
theorem dX2_take_12 : decode cX2_take 12 = .ok (.invokestatic 22, 3) := by decide +kernel
theorem dX2_take_15 : decode cX2_take 15 = .ok (.return_, 1) := by decide +kernel
end
section
theorem dX3_init_0 : decode cX3_init 0 = .ok (.aload_n 0, 1) := by decide +kernel
theorem dX3_init_1 : decode cX3_init 1 = .ok (.invokespecial 3, 3) := by decide +kernel
theorem dX3_init_4 : decode cX3_init 4 = .ok (.aload_n 0, 1) := by decide +kernel
theorem dX3_init_5 : decode cX3_init 5 = .ok (.bipush 99, 2) := by decide +kernel
theorem dX3_init_7 : decode cX3_init 7 = .ok (.newarray .int, 2) := by decide +kernel
theorem dX3_init_9 : decode cX3_init 9 = .ok (.putfield 9, 3) := by decide +kernel
theorem dX3_init_12 : decode cX3_init 12 = .ok (.aload_n 0, 1) := by decide +kernel
theorem dX3_init_13 : decode cX3_init 13 = .ok (.bipush 6, 2) := by decide +kernel
theorem dX3_init_15 : decode cX3_init 15 = .ok (.newarray .int, 2) := by decide +kernel
theorem dX3_init_17 : decode cX3_init 17 = .ok (.putfield 15, 3) := by decide +kernel
theorem dX3_init_20 : decode cX3_init 20 = .ok (.aload_n 0, 1) := by decide +kernel
theorem dX3_init_21 : decode cX3_init 21 = .ok (.iconst 0, 1) := by decide +kernel
theorem dX3_init_22 : decode cX3_init 22 = .ok (.putfield 18, 3) := by decide +kernel
theorem dX3_init_25 : decode cX3_init 25 = .ok (.aload_n 0, 1) := by decide +kernel
theorem dX3_init_26 : decode cX3_init 26 = .ok (.iconst 0, 1) := by decide +kernel
theorem dX3_init_27 : decode cX3_init 27 = .ok (.putfield 22, 3) := by decide +kernel
theorem dX3_init_30 : decode cX3_init 30 = .ok (.aload_n 0, 1) := by decide +kernel
theorem dX3_init_31 : decode cX3_init 31 = .ok (.iconst 0, 1) := by decide +kernel
theorem dX3_init_32 : decode cX3_init 32 = .ok (.putfield 25, 3) := by decide +kernel
theorem dX3_init_35 : decode cX3_init 35 = .ok (.aload_n 0, 1) := by decide +kernel
theorem dX3_init_36 : decode cX3_init 36 = .ok (.iconst 0, 1) := by decide +kernel
theorem dX3_init_37 : decode cX3_init 37 = .ok (.putfield 28, 3) := by decide +kernel
theorem dX3_init_40 : decode cX3_init 40 = .ok (.aload_n 0, 1) := by decide +kernel
theorem dX3_init_41 : decode cX3_init 41 = .ok (.iconst 0, 1) := by decide +kernel
theorem dX3_init_42 : decode cX3_init 42 = .ok (.putfield 31, 3) := by decide +kernel
theorem dX3_init_45 : decode cX3_init 45 = .ok (.aload_n 0, 1) := by decide +kernel
theorem dX3_init_46 : decode cX3_init 46 = .ok (.aload_n 1, 1) := by decide +kernel
theorem dX3_init_47 : decode cX3_init 47 = .ok (.putfield 35, 3) := by decide +kernel
theorem dX3_init_50 : decode cX3_init 50 = .ok (.return_, 1) := by decide +kernel
theorem dX3_make_0 : decode cX3_make 0 = .ok (.aload_n 0, 1) := by decide +kernel
theorem dX3_make_1 : decode cX3_make 1 = .ok (.aload_n 1, 1) := by decide +kernel
theorem dX3_make_2 : decode cX3_make 2 = .ok (.putfield 35, 3) := by decide +kernel
theorem dX3_make_5 : decode cX3_make 5 = .ok (.aload_n 0, 1) := by decide +kernel
theorem dX3_make_6 : decode cX3_make 6 = .ok (.iconst 0, 1) := by decide +kernel
theorem dX3_make_7 : decode cX3_make 7 = .ok (.putfield 18, 3) := by decide +kernel
theorem dX3_make_10 : decode cX3_make 10 = .ok (.aload_n 0, 1) := by decide +kernel
theorem dX3_make_11 : decode cX3_make 11 = .ok (.iconst 0, 1) := by decide +kernel
theorem dX3_make_12 : decode cX3_make 12 = .ok (.putfield 22, 3) := by decide +kernel
theorem dX3_make_15 : decode cX3_make 15 = .ok (.aload_n 0, 1) := by decide +kernel
theorem dX3_make_16 : decode cX3_make 16 = .ok (.iconst 0, 1) := by decide +kernel
theorem dX3_make_17 : decode cX3_make 17 = .ok (.putfield 25, 3) := by decide +kernel
theorem dX3_make_20 : decode cX3_make 20 = .ok (.aload_n 0, 1) := by decide +kernel
theorem dX3_make_21 : decode cX3_make 21 = .ok (.iconst 0, 1) := by decide +kernel
theorem dX3_make_22 : decode cX3_make 22 = .ok (.putfield 31, 3) := by decide +kernel
theorem dX3_make_25 : decode cX3_make 25 = .ok (.iconst 0, 1) := by decide +kernel
theorem dX3_make_26 : decode cX3_make 26 = .ok (.istore 4, 2) := by decide +kernel
theorem dX3_make_28 : decode cX3_make 28 = .ok (.iload 4, 2) := by decide +kernel
theorem dX3_make_30 : decode cX3_make 30 = .ok (.bipush 6, 2) := by decide +kernel
theorem dX3_make_32 : decode cX3_make 32 = .ok (.if_icmp .ge 17, 3) := by decide +kernel
theorem dX3_make_35 : decode cX3_make 35 = .ok (.aload_n 0, 1) := by decide +kernel
theorem dX3_make_36 : decode cX3_make 36 = .ok (.getfield 15, 3) := by decide +kernel
theorem dX3_make_39 : decode cX3_make 39 = .ok (.iload 4, 2) := by decide +kernel
theorem dX3_make_41 : decode cX3_make 41 = .ok (.iconst 0, 1) := by decide +kernel
theorem dX3_make_42 : decode cX3_make 42 = .ok (.iastore, 1) := by decide +kernel
theorem dX3_make_43 : decode cX3_make 43 = .ok (.iinc 4 1, 3) := by decide +kernel
theorem dX3_make_46 : decode cX3_make 46 = .ok (.goto (-18), 3) := by decide +kernel
theorem dX3_make_49 : decode cX3_make 49 = .ok (.aload_n 0, 1) := by decide +kernel
theorem dX3_make_50 : decode cX3_make 50 = .ok (.aload_n 0, 1) := by decide +kernel
theorem dX3_make_51 : decode cX3_make 51 = .ok (.iload_n 2, 1) := by decide +kernel
theorem dX3_make_52 : decode cX3_make 52 = .ok (.iload_n 3, 1) := by decide +kernel
theorem dX3_make_53 : decode cX3_make 53 = .ok (.iconst 0, 1) := by decide +kernel
theorem dX3_make_54 : decode cX3_make 54 = .ok (.invokevirtual 39, 3) := by decide +kernel
theorem dX3_make_57 : decode cX3_make 57 = .ok (.putfield 28, 3) := by decide +kernel
theorem dX3_make_60 : decode cX3_make 60 = .ok (.return_, 1) := by decide +kernel
theorem dX3_isFull_0 : decode cX3_isFull 0 = .ok (.aload_n 0, 1) := by decide +kernel
theorem dX3_isFull_1 : decode cX3_isFull 1 = .ok (.getfield 31, 3) := by decide +kernel
theorem dX3_isFull_4 : decode cX3_isFull 4 = .ok (.ireturn, 1) := by decide +kernel
theorem dX3_fails_0 : decode cX3_fails 0 = .ok (.aload_n 0, 1) := by decide +kernel
theorem dX3_fails_1 : decode cX3_fails 1 = .ok (.getfield 31, 3) := by decide +kernel
theorem dX3_fails_4 : decode cX3_fails 4 = .ok (.ifCond .ne 14, 3) := by decide +kernel
theorem dX3_fails_7 : decode cX3_fails 7 = .ok (.aload_n 0, 1) := by decide +kernel
theorem dX3_fails_8 : decode cX3_fails 8 = .ok (.getfield 25, 3) := by decide +kernel
theorem dX3_fails_11 : decode cX3_fails 11 = .ok (.ifCond .eq 7, 3) := by decide +kernel
theorem dX3_fails_14 : decode cX3_fails 14 = .ok (.iconst 1, 1) := by decide +kernel
theorem dX3_fails_15 : decode cX3_fails 15 = .ok (.goto 4, 3) := by decide +kernel
theorem dX3_fails_18 : decode cX3_fails 18 = .ok (.iconst 0, 1) := by decide +kernel
theorem dX3_fails_19 : decode cX3_fails 19 = .ok (.ireturn, 1) := by decide +kernel
theorem dX3_size_0 : decode cX3_size 0 = .ok (.aload_n 0, 1) := by decide +kernel
theorem dX3_size_1 : decode cX3_size 1 = .ok (.getfield 18, 3) := by decide +kernel
theorem dX3_size_4 : decode cX3_size 4 = .ok (.ireturn, 1) := by decide +kernel
theorem dX3_calls_0 : decode cX3_calls 0 = .ok (.aload_n 0, 1) := by decide +kernel
theorem dX3_calls_1 : decode cX3_calls 1 = .ok (.getfield 22, 3) := by decide +kernel
theorem dX3_calls_4 : decode cX3_calls 4 = .ok (.ireturn, 1) := by decide +kernel
theorem dX3_failure_0 : decode cX3_failure 0 = .ok (.aload_n 0, 1) := by decide +kernel
theorem dX3_failure_1 : decode cX3_failure 1 = .ok (.getfield 25, 3) := by decide +kernel
theorem dX3_failure_4 : decode cX3_failure 4 = .ok (.ireturn, 1) := by decide +kernel
theorem dX3_returned_0 : decode cX3_returned 0 = .ok (.aload_n 0, 1) := by decide +kernel
theorem dX3_returned_1 : decode cX3_returned 1 = .ok (.getfield 25, 3) := by decide +kernel
theorem dX3_returned_4 : decode cX3_returned 4 = .ok (.ifCond .eq 8, 3) := by decide +kernel
theorem dX3_returned_7 : decode cX3_returned 7 = .ok (.ldc 43, 2) := by decide +kernel
theorem dX3_returned_9 : decode cX3_returned 9 = .ok (.goto 7, 3) := by decide +kernel
theorem dX3_returned_12 : decode cX3_returned 12 = .ok (.aload_n 0, 1) := by decide +kernel
theorem dX3_returned_13 : decode cX3_returned 13 = .ok (.getfield 28, 3) := by decide +kernel
theorem dX3_returned_16 : decode cX3_returned 16 = .ok (.ireturn, 1) := by decide +kernel
theorem dX3_number_0 : decode cX3_number 0 = .ok (.iload_n 1, 1) := by decide +kernel
theorem dX3_number_1 : decode cX3_number 1 = .ok (.ifCond .lt 20, 3) := by decide +kernel
theorem dX3_number_4 : decode cX3_number 4 = .ok (.iload_n 1, 1) := by decide +kernel
theorem dX3_number_5 : decode cX3_number 5 = .ok (.aload_n 0, 1) := by decide +kernel
theorem dX3_number_6 : decode cX3_number 6 = .ok (.getfield 18, 3) := by decide +kernel
theorem dX3_number_9 : decode cX3_number 9 = .ok (.if_icmp .ge 12, 3) := by decide +kernel
theorem dX3_number_12 : decode cX3_number 12 = .ok (.aload_n 0, 1) := by decide +kernel
theorem dX3_number_13 : decode cX3_number 13 = .ok (.getfield 9, 3) := by decide +kernel
theorem dX3_number_16 : decode cX3_number 16 = .ok (.iload_n 1, 1) := by decide +kernel
theorem dX3_number_17 : decode cX3_number 17 = .ok (.iaload, 1) := by decide +kernel
theorem dX3_number_18 : decode cX3_number 18 = .ok (.goto 5, 3) := by decide +kernel
theorem dX3_number_21 : decode cX3_number 21 = .ok (.ldc 43, 2) := by decide +kernel
theorem dX3_number_23 : decode cX3_number 23 = .ok (.ireturn, 1) := by decide +kernel
theorem dX3_tests_0 : decode cX3_tests 0 = .ok (.iconst 0, 1) := by decide +kernel
theorem dX3_tests_1 : decode cX3_tests 1 = .ok (.istore_n 1, 1) := by decide +kernel
theorem dX3_tests_2 : decode cX3_tests 2 = .ok (.iconst 0, 1) := by decide +kernel
theorem dX3_tests_3 : decode cX3_tests 3 = .ok (.istore_n 2, 1) := by decide +kernel
theorem dX3_tests_4 : decode cX3_tests 4 = .ok (.iload_n 2, 1) := by decide +kernel
theorem dX3_tests_5 : decode cX3_tests 5 = .ok (.aload_n 0, 1) := by decide +kernel
theorem dX3_tests_6 : decode cX3_tests 6 = .ok (.getfield 35, 3) := by decide +kernel
theorem dX3_tests_9 : decode cX3_tests 9 = .ok (.invokevirtual 44, 3) := by decide +kernel
theorem dX3_tests_12 : decode cX3_tests 12 = .ok (.if_icmp .ge 27, 3) := by decide +kernel
theorem dX3_tests_15 : decode cX3_tests 15 = .ok (.iload_n 1, 1) := by decide +kernel
theorem dX3_tests_16 : decode cX3_tests 16 = .ok (.aload_n 0, 1) := by decide +kernel
theorem dX3_tests_17 : decode cX3_tests 17 = .ok (.getfield 15, 3) := by decide +kernel
theorem dX3_tests_20 : decode cX3_tests 20 = .ok (.iload_n 2, 1) := by decide +kernel
theorem dX3_tests_21 : decode cX3_tests 21 = .ok (.iaload, 1) := by decide +kernel
theorem dX3_tests_22 : decode cX3_tests 22 = .ok (.aload_n 0, 1) := by decide +kernel
theorem dX3_tests_23 : decode cX3_tests 23 = .ok (.getfield 35, 3) := by decide +kernel
theorem dX3_tests_26 : decode cX3_tests 26 = .ok (.iload_n 2, 1) := by decide +kernel
theorem dX3_tests_27 : decode cX3_tests 27 = .ok (.invokevirtual 50, 3) := by decide +kernel
theorem dX3_tests_30 : decode cX3_tests 30 = .ok (.imul, 1) := by decide +kernel
theorem dX3_tests_31 : decode cX3_tests 31 = .ok (.iadd, 1) := by decide +kernel
theorem dX3_tests_32 : decode cX3_tests 32 = .ok (.istore_n 1, 1) := by decide +kernel
theorem dX3_tests_33 : decode cX3_tests 33 = .ok (.iinc 2 1, 3) := by decide +kernel
theorem dX3_tests_36 : decode cX3_tests 36 = .ok (.goto (-32), 3) := by decide +kernel
theorem dX3_tests_39 : decode cX3_tests 39 = .ok (.iload_n 1, 1) := by decide +kernel
theorem dX3_tests_40 : decode cX3_tests 40 = .ok (.ireturn, 1) := by decide +kernel
theorem dX3_endsAs_0 : decode cX3_endsAs 0 = .ok (.aload_n 0, 1) := by decide +kernel
theorem dX3_endsAs_1 : decode cX3_endsAs 1 = .ok (.getfield 31, 3) := by decide +kernel
theorem dX3_endsAs_4 : decode cX3_endsAs 4 = .ok (.ifCond .ne 31, 3) := by decide +kernel
theorem dX3_endsAs_7 : decode cX3_endsAs 7 = .ok (.aload_n 0, 1) := by decide +kernel
theorem dX3_endsAs_8 : decode cX3_endsAs 8 = .ok (.getfield 18, 3) := by decide +kernel
theorem dX3_endsAs_11 : decode cX3_endsAs 11 = .ok (.iload_n 1, 1) := by decide +kernel
theorem dX3_endsAs_12 : decode cX3_endsAs 12 = .ok (.if_icmp .ne 23, 3) := by decide +kernel
theorem dX3_endsAs_15 : decode cX3_endsAs 15 = .ok (.aload_n 0, 1) := by decide +kernel
theorem dX3_endsAs_16 : decode cX3_endsAs 16 = .ok (.getfield 25, 3) := by decide +kernel
theorem dX3_endsAs_19 : decode cX3_endsAs 19 = .ok (.iload_n 2, 1) := by decide +kernel
theorem dX3_endsAs_20 : decode cX3_endsAs 20 = .ok (.if_icmp .ne 15, 3) := by decide +kernel
theorem dX3_endsAs_23 : decode cX3_endsAs 23 = .ok (.aload_n 0, 1) := by decide +kernel
theorem dX3_endsAs_24 : decode cX3_endsAs 24 = .ok (.invokevirtual 54, 3) := by decide +kernel
theorem dX3_endsAs_27 : decode cX3_endsAs 27 = .ok (.iload_n 3, 1) := by decide +kernel
theorem dX3_endsAs_28 : decode cX3_endsAs 28 = .ok (.if_icmp .ne 7, 3) := by decide +kernel
theorem dX3_endsAs_31 : decode cX3_endsAs 31 = .ok (.iconst 1, 1) := by decide +kernel
theorem dX3_endsAs_32 : decode cX3_endsAs 32 = .ok (.goto 4, 3) := by decide +kernel
theorem dX3_endsAs_35 : decode cX3_endsAs 35 = .ok (.iconst 0, 1) := by decide +kernel
theorem dX3_endsAs_36 : decode cX3_endsAs 36 = .ok (.ireturn, 1) := by decide +kernel
theorem dX3_beginsWith_0 : decode cX3_beginsWith 0 = .ok (.aload_n 0, 1) := by decide +kernel
theorem dX3_beginsWith_1 : decode cX3_beginsWith 1 = .ok (.getfield 31, 3) := by decide +kernel
theorem dX3_beginsWith_4 : decode cX3_beginsWith 4 = .ok (.ifCond .ne 14, 3) := by decide +kernel
theorem dX3_beginsWith_7 : decode cX3_beginsWith 7 = .ok (.aload_n 0, 1) := by decide +kernel
theorem dX3_beginsWith_8 : decode cX3_beginsWith 8 = .ok (.getfield 18, 3) := by decide +kernel
theorem dX3_beginsWith_11 : decode cX3_beginsWith 11 = .ok (.aload_n 1, 1) := by decide +kernel
theorem dX3_beginsWith_12 : decode cX3_beginsWith 12 = .ok (.invokevirtual 56, 3) := by decide +kernel
theorem dX3_beginsWith_15 : decode cX3_beginsWith 15 = .ok (.if_icmp .ge 5, 3) := by decide +kernel
theorem dX3_beginsWith_18 : decode cX3_beginsWith 18 = .ok (.iconst 0, 1) := by decide +kernel
theorem dX3_beginsWith_19 : decode cX3_beginsWith 19 = .ok (.ireturn, 1) := by decide +kernel
theorem dX3_beginsWith_20 : decode cX3_beginsWith 20 = .ok (.iconst 0, 1) := by decide +kernel
theorem dX3_beginsWith_21 : decode cX3_beginsWith 21 = .ok (.istore_n 2, 1) := by decide +kernel
theorem dX3_beginsWith_22 : decode cX3_beginsWith 22 = .ok (.iload_n 2, 1) := by decide +kernel
theorem dX3_beginsWith_23 : decode cX3_beginsWith 23 = .ok (.aload_n 1, 1) := by decide +kernel
theorem dX3_beginsWith_24 : decode cX3_beginsWith 24 = .ok (.invokevirtual 56, 3) := by decide +kernel
theorem dX3_beginsWith_27 : decode cX3_beginsWith 27 = .ok (.if_icmp .ge 25, 3) := by decide +kernel
theorem dX3_beginsWith_30 : decode cX3_beginsWith 30 = .ok (.aload_n 0, 1) := by decide +kernel
theorem dX3_beginsWith_31 : decode cX3_beginsWith 31 = .ok (.getfield 9, 3) := by decide +kernel
theorem dX3_beginsWith_34 : decode cX3_beginsWith 34 = .ok (.iload_n 2, 1) := by decide +kernel
theorem dX3_beginsWith_35 : decode cX3_beginsWith 35 = .ok (.iaload, 1) := by decide +kernel
theorem dX3_beginsWith_36 : decode cX3_beginsWith 36 = .ok (.aload_n 1, 1) := by decide +kernel
theorem dX3_beginsWith_37 : decode cX3_beginsWith 37 = .ok (.iload_n 2, 1) := by decide +kernel
theorem dX3_beginsWith_38 : decode cX3_beginsWith 38 = .ok (.invokevirtual 60, 3) := by decide +kernel
theorem dX3_beginsWith_41 : decode cX3_beginsWith 41 = .ok (.if_icmp .eq 5, 3) := by decide +kernel
theorem dX3_beginsWith_44 : decode cX3_beginsWith 44 = .ok (.iconst 0, 1) := by decide +kernel
theorem dX3_beginsWith_45 : decode cX3_beginsWith 45 = .ok (.ireturn, 1) := by decide +kernel
theorem dX3_beginsWith_46 : decode cX3_beginsWith 46 = .ok (.iinc 2 1, 3) := by decide +kernel
theorem dX3_beginsWith_49 : decode cX3_beginsWith 49 = .ok (.goto (-27), 3) := by decide +kernel
theorem dX3_beginsWith_52 : decode cX3_beginsWith 52 = .ok (.iconst 1, 1) := by decide +kernel
theorem dX3_beginsWith_53 : decode cX3_beginsWith 53 = .ok (.ireturn, 1) := by decide +kernel
theorem dX3_isStopped_0 : decode cX3_isStopped 0 = .ok (.aload_n 0, 1) := by decide +kernel
theorem dX3_isStopped_1 : decode cX3_isStopped 1 = .ok (.getfield 31, 3) := by decide +kernel
theorem dX3_isStopped_4 : decode cX3_isStopped 4 = .ok (.ifCond .ne 10, 3) := by decide +kernel
theorem dX3_isStopped_7 : decode cX3_isStopped 7 = .ok (.aload_n 0, 1) := by decide +kernel
theorem dX3_isStopped_8 : decode cX3_isStopped 8 = .ok (.getfield 25, 3) := by decide +kernel
theorem dX3_isStopped_11 : decode cX3_isStopped 11 = .ok (.ifCond .eq 7, 3) := by decide +kernel
theorem dX3_isStopped_14 : decode cX3_isStopped 14 = .ok (.iconst 1, 1) := by decide +kernel
theorem dX3_isStopped_15 : decode cX3_isStopped 15 = .ok (.goto 4, 3) := by decide +kernel
theorem dX3_isStopped_18 : decode cX3_isStopped 18 = .ok (.iconst 0, 1) := by decide +kernel
theorem dX3_isStopped_19 : decode cX3_isStopped 19 = .ok (.ireturn, 1) := by decide +kernel
theorem dX3_emit_0 : decode cX3_emit 0 = .ok (.aload_n 0, 1) := by decide +kernel
theorem dX3_emit_1 : decode cX3_emit 1 = .ok (.getfield 18, 3) := by decide +kernel
theorem dX3_emit_4 : decode cX3_emit 4 = .ok (.bipush 99, 2) := by decide +kernel
theorem dX3_emit_6 : decode cX3_emit 6 = .ok (.if_icmp .lt 8, 3) := by decide +kernel
theorem dX3_emit_9 : decode cX3_emit 9 = .ok (.aload_n 0, 1) := by decide +kernel
theorem dX3_emit_10 : decode cX3_emit 10 = .ok (.iconst 1, 1) := by decide +kernel
theorem dX3_emit_11 : decode cX3_emit 11 = .ok (.putfield 31, 3) := by decide +kernel
theorem dX3_emit_14 : decode cX3_emit 14 = .ok (.aload_n 0, 1) := by decide +kernel
theorem dX3_emit_15 : decode cX3_emit 15 = .ok (.getfield 31, 3) := by decide +kernel
theorem dX3_emit_18 : decode cX3_emit 18 = .ok (.ifCond .ne 23, 3) := by decide +kernel
theorem dX3_emit_21 : decode cX3_emit 21 = .ok (.aload_n 0, 1) := by decide +kernel
theorem dX3_emit_22 : decode cX3_emit 22 = .ok (.getfield 9, 3) := by decide +kernel
theorem dX3_emit_25 : decode cX3_emit 25 = .ok (.aload_n 0, 1) := by decide +kernel
theorem dX3_emit_26 : decode cX3_emit 26 = .ok (.getfield 18, 3) := by decide +kernel
theorem dX3_emit_29 : decode cX3_emit 29 = .ok (.iload_n 1, 1) := by decide +kernel
theorem dX3_emit_30 : decode cX3_emit 30 = .ok (.iastore, 1) := by decide +kernel
theorem dX3_emit_31 : decode cX3_emit 31 = .ok (.aload_n 0, 1) := by decide +kernel
theorem dX3_emit_32 : decode cX3_emit 32 = .ok (.dup, 1) := by decide +kernel
theorem dX3_emit_33 : decode cX3_emit 33 = .ok (.getfield 18, 3) := by decide +kernel
theorem dX3_emit_36 : decode cX3_emit 36 = .ok (.iconst 1, 1) := by decide +kernel
theorem dX3_emit_37 : decode cX3_emit 37 = .ok (.iadd, 1) := by decide +kernel
theorem dX3_emit_38 : decode cX3_emit 38 = .ok (.putfield 18, 3) := by decide +kernel
theorem dX3_emit_41 : decode cX3_emit 41 = .ok (.return_, 1) := by decide +kernel
theorem dX3_enter_0 : decode cX3_enter 0 = .ok (.aload_n 0, 1) := by decide +kernel
theorem dX3_enter_1 : decode cX3_enter 1 = .ok (.getfield 22, 3) := by decide +kernel
theorem dX3_enter_4 : decode cX3_enter 4 = .ok (.sipush 300, 3) := by decide +kernel
theorem dX3_enter_7 : decode cX3_enter 7 = .ok (.if_icmp .lt 10, 3) := by decide +kernel
theorem dX3_enter_10 : decode cX3_enter 10 = .ok (.aload_n 0, 1) := by decide +kernel
theorem dX3_enter_11 : decode cX3_enter 11 = .ok (.iconst 1, 1) := by decide +kernel
theorem dX3_enter_12 : decode cX3_enter 12 = .ok (.putfield 31, 3) := by decide +kernel
theorem dX3_enter_15 : decode cX3_enter 15 = .ok (.iconst 0, 1) := by decide +kernel
theorem dX3_enter_16 : decode cX3_enter 16 = .ok (.ireturn, 1) := by decide +kernel
theorem dX3_enter_17 : decode cX3_enter 17 = .ok (.aload_n 0, 1) := by decide +kernel
theorem dX3_enter_18 : decode cX3_enter 18 = .ok (.dup, 1) := by decide +kernel
theorem dX3_enter_19 : decode cX3_enter 19 = .ok (.getfield 22, 3) := by decide +kernel
theorem dX3_enter_22 : decode cX3_enter 22 = .ok (.iconst 1, 1) := by decide +kernel
theorem dX3_enter_23 : decode cX3_enter 23 = .ok (.iadd, 1) := by decide +kernel
theorem dX3_enter_24 : decode cX3_enter 24 = .ok (.putfield 22, 3) := by decide +kernel
theorem dX3_enter_27 : decode cX3_enter 27 = .ok (.aload_n 0, 1) := by decide +kernel
theorem dX3_enter_28 : decode cX3_enter 28 = .ok (.getfield 15, 3) := by decide +kernel
theorem dX3_enter_31 : decode cX3_enter 31 = .ok (.iload_n 1, 1) := by decide +kernel
theorem dX3_enter_32 : decode cX3_enter 32 = .ok (.dup2, 1) := by decide +kernel
theorem dX3_enter_33 : decode cX3_enter 33 = .ok (.iaload, 1) := by decide +kernel
theorem dX3_enter_34 : decode cX3_enter 34 = .ok (.iconst 1, 1) := by decide +kernel
theorem dX3_enter_35 : decode cX3_enter 35 = .ok (.iadd, 1) := by decide +kernel
theorem dX3_enter_36 : decode cX3_enter 36 = .ok (.iastore, 1) := by decide +kernel
theorem dX3_enter_37 : decode cX3_enter 37 = .ok (.iload_n 3, 1) := by decide +kernel
theorem dX3_enter_38 : decode cX3_enter 38 = .ok (.iconst 1, 1) := by decide +kernel
theorem dX3_enter_39 : decode cX3_enter 39 = .ok (.iload_n 1, 1) := by decide +kernel
theorem dX3_enter_40 : decode cX3_enter 40 = .ok (.ishl, 1) := by decide +kernel
theorem dX3_enter_41 : decode cX3_enter 41 = .ok (.ior, 1) := by decide +kernel
theorem dX3_enter_42 : decode cX3_enter 42 = .ok (.istore 4, 2) := by decide +kernel
theorem dX3_enter_44 : decode cX3_enter 44 = .ok (.aload_n 0, 1) := by decide +kernel
theorem dX3_enter_45 : decode cX3_enter 45 = .ok (.iload_n 1, 1) := by decide +kernel
theorem dX3_enter_46 : decode cX3_enter 46 = .ok (.iload_n 2, 1) := by decide +kernel
theorem dX3_enter_47 : decode cX3_enter 47 = .ok (.iload 4, 2) := by decide +kernel
theorem dX3_enter_49 : decode cX3_enter 49 = .ok (.aload_n 0, 1) := by decide +kernel
theorem dX3_enter_50 : decode cX3_enter 50 = .ok (.getfield 35, 3) := by decide +kernel
theorem dX3_enter_53 : decode cX3_enter 53 = .ok (.iload_n 1, 1) := by decide +kernel
theorem dX3_enter_54 : decode cX3_enter 54 = .ok (.iload_n 2, 1) := by decide +kernel
theorem dX3_enter_55 : decode cX3_enter 55 = .ok (.iload 4, 2) := by decide +kernel
theorem dX3_enter_57 : decode cX3_enter 57 = .ok (.invokevirtual 63, 3) := by decide +kernel
theorem dX3_enter_60 : decode cX3_enter 60 = .ok (.iconst 0, 1) := by decide +kernel
theorem dX3_enter_61 : decode cX3_enter 61 = .ok (.invokevirtual 66, 3) := by decide +kernel
theorem dX3_enter_64 : decode cX3_enter 64 = .ok (.ireturn, 1) := by decide +kernel
theorem dX3_goOn_0 : decode cX3_goOn 0 = .ok (.aload_n 0, 1) := by decide +kernel
theorem dX3_goOn_1 : decode cX3_goOn 1 = .ok (.invokevirtual 70, 3) := by decide +kernel
theorem dX3_goOn_4 : decode cX3_goOn 4 = .ok (.ifCond .eq 5, 3) := by decide +kernel
theorem dX3_goOn_7 : decode cX3_goOn 7 = .ok (.iconst 0, 1) := by decide +kernel
theorem dX3_goOn_8 : decode cX3_goOn 8 = .ok (.ireturn, 1) := by decide +kernel
theorem dX3_goOn_9 : decode cX3_goOn 9 = .ok (.iload 5, 2) := by decide +kernel
theorem dX3_goOn_11 : decode cX3_goOn 11 = .ok (.istore 6, 2) := by decide +kernel
theorem dX3_goOn_13 : decode cX3_goOn 13 = .ok (.iload 6, 2) := by decide +kernel
theorem dX3_goOn_15 : decode cX3_goOn 15 = .ok (.iconst 5, 1) := by decide +kernel
theorem dX3_goOn_16 : decode cX3_goOn 16 = .ok (.if_icmp .ge 19, 3) := by decide +kernel
theorem dX3_goOn_19 : decode cX3_goOn 19 = .ok (.iload 4, 2) := by decide +kernel
theorem dX3_goOn_21 : decode cX3_goOn 21 = .ok (.iload 6, 2) := by decide +kernel
theorem dX3_goOn_23 : decode cX3_goOn 23 = .ok (.invokestatic 74, 3) := by decide +kernel
theorem dX3_goOn_26 : decode cX3_goOn 26 = .ok (.ifCond .ne 9, 3) := by decide +kernel
theorem dX3_goOn_29 : decode cX3_goOn 29 = .ok (.iinc 6 1, 3) := by decide +kernel
theorem dX3_goOn_32 : decode cX3_goOn 32 = .ok (.goto (-19), 3) := by decide +kernel
theorem dX3_goOn_35 : decode cX3_goOn 35 = .ok (.iload 6, 2) := by decide +kernel
theorem dX3_goOn_37 : decode cX3_goOn 37 = .ok (.iconst 5, 1) := by decide +kernel
theorem dX3_goOn_38 : decode cX3_goOn 38 = .ok (.if_icmp .lt 11, 3) := by decide +kernel
theorem dX3_goOn_41 : decode cX3_goOn 41 = .ok (.aload_n 0, 1) := by decide +kernel
theorem dX3_goOn_42 : decode cX3_goOn 42 = .ok (.iload_n 1, 1) := by decide +kernel
theorem dX3_goOn_43 : decode cX3_goOn 43 = .ok (.iload_n 2, 1) := by decide +kernel
theorem dX3_goOn_44 : decode cX3_goOn 44 = .ok (.iload_n 3, 1) := by decide +kernel
theorem dX3_goOn_45 : decode cX3_goOn 45 = .ok (.invokevirtual 78, 3) := by decide +kernel
theorem dX3_goOn_48 : decode cX3_goOn 48 = .ok (.ireturn, 1) := by decide +kernel
theorem dX3_goOn_49 : decode cX3_goOn 49 = .ok (.aload_n 0, 1) := by decide +kernel
theorem dX3_goOn_50 : decode cX3_goOn 50 = .ok (.getfield 35, 3) := by decide +kernel
theorem dX3_goOn_53 : decode cX3_goOn 53 = .ok (.iload 6, 2) := by decide +kernel
theorem dX3_goOn_55 : decode cX3_goOn 55 = .ok (.iconst 0, 1) := by decide +kernel
theorem dX3_goOn_56 : decode cX3_goOn 56 = .ok (.invokevirtual 81, 3) := by decide +kernel
theorem dX3_goOn_59 : decode cX3_goOn 59 = .ok (.istore 7, 2) := by decide +kernel
theorem dX3_goOn_61 : decode cX3_goOn 61 = .ok (.aload_n 0, 1) := by decide +kernel
theorem dX3_goOn_62 : decode cX3_goOn 62 = .ok (.getfield 35, 3) := by decide +kernel
theorem dX3_goOn_65 : decode cX3_goOn 65 = .ok (.iload 6, 2) := by decide +kernel
theorem dX3_goOn_67 : decode cX3_goOn 67 = .ok (.iconst 5, 1) := by decide +kernel
theorem dX3_goOn_68 : decode cX3_goOn 68 = .ok (.invokevirtual 81, 3) := by decide +kernel
theorem dX3_goOn_71 : decode cX3_goOn 71 = .ok (.istore 8, 2) := by decide +kernel
theorem dX3_goOn_73 : decode cX3_goOn 73 = .ok (.iload 8, 2) := by decide +kernel
theorem dX3_goOn_75 : decode cX3_goOn 75 = .ok (.iconst 4, 1) := by decide +kernel
theorem dX3_goOn_76 : decode cX3_goOn 76 = .ok (.if_icmp .ne 15, 3) := by decide +kernel
theorem dX3_goOn_79 : decode cX3_goOn 79 = .ok (.aload_n 0, 1) := by decide +kernel
theorem dX3_goOn_80 : decode cX3_goOn 80 = .ok (.iload_n 1, 1) := by decide +kernel
theorem dX3_goOn_81 : decode cX3_goOn 81 = .ok (.iload_n 2, 1) := by decide +kernel
theorem dX3_goOn_82 : decode cX3_goOn 82 = .ok (.iload_n 3, 1) := by decide +kernel
theorem dX3_goOn_83 : decode cX3_goOn 83 = .ok (.iload 4, 2) := by decide +kernel
theorem dX3_goOn_85 : decode cX3_goOn 85 = .ok (.iload 6, 2) := by decide +kernel
theorem dX3_goOn_87 : decode cX3_goOn 87 = .ok (.invokevirtual 85, 3) := by decide +kernel
theorem dX3_goOn_90 : decode cX3_goOn 90 = .ok (.ireturn, 1) := by decide +kernel
theorem dX3_goOn_91 : decode cX3_goOn 91 = .ok (.iload 8, 2) := by decide +kernel
theorem dX3_goOn_93 : decode cX3_goOn 93 = .ok (.iconst 5, 1) := by decide +kernel
theorem dX3_goOn_94 : decode cX3_goOn 94 = .ok (.if_icmp .ne 23, 3) := by decide +kernel
theorem dX3_goOn_97 : decode cX3_goOn 97 = .ok (.aload_n 0, 1) := by decide +kernel
theorem dX3_goOn_98 : decode cX3_goOn 98 = .ok (.iload 7, 2) := by decide +kernel
theorem dX3_goOn_100 : decode cX3_goOn 100 = .ok (.invokevirtual 88, 3) := by decide +kernel
theorem dX3_goOn_103 : decode cX3_goOn 103 = .ok (.aload_n 0, 1) := by decide +kernel
theorem dX3_goOn_104 : decode cX3_goOn 104 = .ok (.iload_n 1, 1) := by decide +kernel
theorem dX3_goOn_105 : decode cX3_goOn 105 = .ok (.iload_n 2, 1) := by decide +kernel
theorem dX3_goOn_106 : decode cX3_goOn 106 = .ok (.iload_n 3, 1) := by decide +kernel
theorem dX3_goOn_107 : decode cX3_goOn 107 = .ok (.iload 4, 2) := by decide +kernel
theorem dX3_goOn_109 : decode cX3_goOn 109 = .ok (.iload 6, 2) := by decide +kernel
theorem dX3_goOn_111 : decode cX3_goOn 111 = .ok (.iconst 1, 1) := by decide +kernel
theorem dX3_goOn_112 : decode cX3_goOn 112 = .ok (.iadd, 1) := by decide +kernel
theorem dX3_goOn_113 : decode cX3_goOn 113 = .ok (.invokevirtual 66, 3) := by decide +kernel
theorem dX3_goOn_116 : decode cX3_goOn 116 = .ok (.ireturn, 1) := by decide +kernel
theorem dX3_goOn_117 : decode cX3_goOn 117 = .ok (.aload_n 0, 1) := by decide +kernel
theorem dX3_goOn_118 : decode cX3_goOn 118 = .ok (.iload_n 1, 1) := by decide +kernel
theorem dX3_goOn_119 : decode cX3_goOn 119 = .ok (.iload_n 2, 1) := by decide +kernel
theorem dX3_goOn_120 : decode cX3_goOn 120 = .ok (.iload_n 3, 1) := by decide +kernel
theorem dX3_goOn_121 : decode cX3_goOn 121 = .ok (.iload 4, 2) := by decide +kernel
theorem dX3_goOn_123 : decode cX3_goOn 123 = .ok (.iload 6, 2) := by decide +kernel
theorem dX3_goOn_125 : decode cX3_goOn 125 = .ok (.iconst 1, 1) := by decide +kernel
theorem dX3_goOn_126 : decode cX3_goOn 126 = .ok (.iadd, 1) := by decide +kernel
theorem dX3_goOn_127 : decode cX3_goOn 127 = .ok (.invokevirtual 66, 3) := by decide +kernel
theorem dX3_goOn_130 : decode cX3_goOn 130 = .ok (.istore 9, 2) := by decide +kernel
theorem dX3_goOn_132 : decode cX3_goOn 132 = .ok (.iload 8, 2) := by decide +kernel
theorem dX3_goOn_134 : decode cX3_goOn 134 = .ok (.iconst 1, 1) := by decide +kernel
theorem dX3_goOn_135 : decode cX3_goOn 135 = .ok (.if_icmp .eq 20, 3) := by decide +kernel
theorem dX3_goOn_138 : decode cX3_goOn 138 = .ok (.iload 8, 2) := by decide +kernel
theorem dX3_goOn_140 : decode cX3_goOn 140 = .ok (.aload_n 0, 1) := by decide +kernel
theorem dX3_goOn_141 : decode cX3_goOn 141 = .ok (.getfield 25, 3) := by decide +kernel
theorem dX3_goOn_144 : decode cX3_goOn 144 = .ok (.ifCond .ne 7, 3) := by decide +kernel
theorem dX3_goOn_147 : decode cX3_goOn 147 = .ok (.iconst 2, 1) := by decide +kernel
theorem dX3_goOn_148 : decode cX3_goOn 148 = .ok (.goto 4, 3) := by decide +kernel
theorem dX3_goOn_151 : decode cX3_goOn 151 = .ok (.iconst 3, 1) := by decide +kernel
theorem dX3_goOn_152 : decode cX3_goOn 152 = .ok (.if_icmp .ne 9, 3) := by decide +kernel
theorem dX3_goOn_155 : decode cX3_goOn 155 = .ok (.aload_n 0, 1) := by decide +kernel
theorem dX3_goOn_156 : decode cX3_goOn 156 = .ok (.iload 7, 2) := by decide +kernel
theorem dX3_goOn_158 : decode cX3_goOn 158 = .ok (.invokevirtual 88, 3) := by decide +kernel
theorem dX3_goOn_161 : decode cX3_goOn 161 = .ok (.iload 9, 2) := by decide +kernel
theorem dX3_goOn_163 : decode cX3_goOn 163 = .ok (.ireturn, 1) := by decide +kernel
theorem dX3_goAround_0 : decode cX3_goAround 0 = .ok (.aload_n 0, 1) := by decide +kernel
theorem dX3_goAround_1 : decode cX3_goAround 1 = .ok (.getfield 35, 3) := by decide +kernel
theorem dX3_goAround_4 : decode cX3_goAround 4 = .ok (.iload 5, 2) := by decide +kernel
theorem dX3_goAround_6 : decode cX3_goAround 6 = .ok (.iconst 0, 1) := by decide +kernel
theorem dX3_goAround_7 : decode cX3_goAround 7 = .ok (.invokevirtual 81, 3) := by decide +kernel
theorem dX3_goAround_10 : decode cX3_goAround 10 = .ok (.istore 6, 2) := by decide +kernel
theorem dX3_goAround_12 : decode cX3_goAround 12 = .ok (.iload 6, 2) := by decide +kernel
theorem dX3_goAround_14 : decode cX3_goAround 14 = .ok (.iconst 3, 1) := by decide +kernel
theorem dX3_goAround_15 : decode cX3_goAround 15 = .ok (.irem, 1) := by decide +kernel
theorem dX3_goAround_16 : decode cX3_goAround 16 = .ok (.istore 7, 2) := by decide +kernel
theorem dX3_goAround_18 : decode cX3_goAround 18 = .ok (.iload 6, 2) := by decide +kernel
theorem dX3_goAround_20 : decode cX3_goAround 20 = .ok (.istore 8, 2) := by decide +kernel
theorem dX3_goAround_22 : decode cX3_goAround 22 = .ok (.aload_n 0, 1) := by decide +kernel
theorem dX3_goAround_23 : decode cX3_goAround 23 = .ok (.iload 6, 2) := by decide +kernel
theorem dX3_goAround_25 : decode cX3_goAround 25 = .ok (.invokevirtual 88, 3) := by decide +kernel
theorem dX3_goAround_28 : decode cX3_goAround 28 = .ok (.iconst 0, 1) := by decide +kernel
theorem dX3_goAround_29 : decode cX3_goAround 29 = .ok (.istore 9, 2) := by decide +kernel
theorem dX3_goAround_31 : decode cX3_goAround 31 = .ok (.iload 9, 2) := by decide +kernel
theorem dX3_goAround_33 : decode cX3_goAround 33 = .ok (.iload 7, 2) := by decide +kernel
theorem dX3_goAround_35 : decode cX3_goAround 35 = .ok (.if_icmp .ge 33, 3) := by decide +kernel
theorem dX3_goAround_38 : decode cX3_goAround 38 = .ok (.aload_n 0, 1) := by decide +kernel
theorem dX3_goAround_39 : decode cX3_goAround 39 = .ok (.invokevirtual 70, 3) := by decide +kernel
theorem dX3_goAround_42 : decode cX3_goAround 42 = .ok (.ifCond .ne 26, 3) := by decide +kernel
theorem dX3_goAround_45 : decode cX3_goAround 45 = .ok (.aload_n 0, 1) := by decide +kernel
theorem dX3_goAround_46 : decode cX3_goAround 46 = .ok (.iload_n 1, 1) := by decide +kernel
theorem dX3_goAround_47 : decode cX3_goAround 47 = .ok (.iload_n 2, 1) := by decide +kernel
theorem dX3_goAround_48 : decode cX3_goAround 48 = .ok (.iload_n 3, 1) := by decide +kernel
theorem dX3_goAround_49 : decode cX3_goAround 49 = .ok (.iload 4, 2) := by decide +kernel
theorem dX3_goAround_51 : decode cX3_goAround 51 = .ok (.iload 5, 2) := by decide +kernel
theorem dX3_goAround_53 : decode cX3_goAround 53 = .ok (.iconst 1, 1) := by decide +kernel
theorem dX3_goAround_54 : decode cX3_goAround 54 = .ok (.iadd, 1) := by decide +kernel
theorem dX3_goAround_55 : decode cX3_goAround 55 = .ok (.invokevirtual 66, 3) := by decide +kernel
theorem dX3_goAround_58 : decode cX3_goAround 58 = .ok (.iconst 1, 1) := by decide +kernel
theorem dX3_goAround_59 : decode cX3_goAround 59 = .ok (.iadd, 1) := by decide +kernel
theorem dX3_goAround_60 : decode cX3_goAround 60 = .ok (.istore 8, 2) := by decide +kernel
theorem dX3_goAround_62 : decode cX3_goAround 62 = .ok (.iinc 9 1, 3) := by decide +kernel
theorem dX3_goAround_65 : decode cX3_goAround 65 = .ok (.goto (-34), 3) := by decide +kernel
theorem dX3_goAround_68 : decode cX3_goAround 68 = .ok (.aload_n 0, 1) := by decide +kernel
theorem dX3_goAround_69 : decode cX3_goAround 69 = .ok (.invokevirtual 70, 3) := by decide +kernel
theorem dX3_goAround_72 : decode cX3_goAround 72 = .ok (.ifCond .ne 12, 3) := by decide +kernel
theorem dX3_goAround_75 : decode cX3_goAround 75 = .ok (.aload_n 0, 1) := by decide +kernel
theorem dX3_goAround_76 : decode cX3_goAround 76 = .ok (.iload 6, 2) := by decide +kernel
theorem dX3_goAround_78 : decode cX3_goAround 78 = .ok (.bipush 100, 2) := by decide +kernel
theorem dX3_goAround_80 : decode cX3_goAround 80 = .ok (.iadd, 1) := by decide +kernel
theorem dX3_goAround_81 : decode cX3_goAround 81 = .ok (.invokevirtual 88, 3) := by decide +kernel
theorem dX3_goAround_84 : decode cX3_goAround 84 = .ok (.iload 8, 2) := by decide +kernel
theorem dX3_goAround_86 : decode cX3_goAround 86 = .ok (.ireturn, 1) := by decide +kernel
theorem dX3_goThrough_0 : decode cX3_goThrough 0 = .ok (.iload_n 2, 1) := by decide +kernel
theorem dX3_goThrough_1 : decode cX3_goThrough 1 = .ok (.istore 4, 2) := by decide +kernel
theorem dX3_goThrough_3 : decode cX3_goThrough 3 = .ok (.iconst 0, 1) := by decide +kernel
theorem dX3_goThrough_4 : decode cX3_goThrough 4 = .ok (.istore 5, 2) := by decide +kernel
theorem dX3_goThrough_6 : decode cX3_goThrough 6 = .ok (.iload 5, 2) := by decide +kernel
theorem dX3_goThrough_8 : decode cX3_goThrough 8 = .ok (.aload_n 0, 1) := by decide +kernel
theorem dX3_goThrough_9 : decode cX3_goThrough 9 = .ok (.getfield 35, 3) := by decide +kernel
theorem dX3_goThrough_12 : decode cX3_goThrough 12 = .ok (.iload_n 1, 1) := by decide +kernel
theorem dX3_goThrough_13 : decode cX3_goThrough 13 = .ok (.invokevirtual 92, 3) := by decide +kernel
theorem dX3_goThrough_16 : decode cX3_goThrough 16 = .ok (.if_icmp .ge 107, 3) := by decide +kernel
theorem dX3_goThrough_19 : decode cX3_goThrough 19 = .ok (.aload_n 0, 1) := by decide +kernel
theorem dX3_goThrough_20 : decode cX3_goThrough 20 = .ok (.invokevirtual 70, 3) := by decide +kernel
theorem dX3_goThrough_23 : decode cX3_goThrough 23 = .ok (.ifCond .ne 100, 3) := by decide +kernel
theorem dX3_goThrough_26 : decode cX3_goThrough 26 = .ok (.aload_n 0, 1) := by decide +kernel
theorem dX3_goThrough_27 : decode cX3_goThrough 27 = .ok (.getfield 35, 3) := by decide +kernel
theorem dX3_goThrough_30 : decode cX3_goThrough 30 = .ok (.iload_n 1, 1) := by decide +kernel
theorem dX3_goThrough_31 : decode cX3_goThrough 31 = .ok (.iload 5, 2) := by decide +kernel
theorem dX3_goThrough_33 : decode cX3_goThrough 33 = .ok (.invokevirtual 95, 3) := by decide +kernel
theorem dX3_goThrough_36 : decode cX3_goThrough 36 = .ok (.istore 6, 2) := by decide +kernel
theorem dX3_goThrough_38 : decode cX3_goThrough 38 = .ok (.aload_n 0, 1) := by decide +kernel
theorem dX3_goThrough_39 : decode cX3_goThrough 39 = .ok (.getfield 35, 3) := by decide +kernel
theorem dX3_goThrough_42 : decode cX3_goThrough 42 = .ok (.iload_n 1, 1) := by decide +kernel
theorem dX3_goThrough_43 : decode cX3_goThrough 43 = .ok (.iload 5, 2) := by decide +kernel
theorem dX3_goThrough_45 : decode cX3_goThrough 45 = .ok (.invokevirtual 98, 3) := by decide +kernel
theorem dX3_goThrough_48 : decode cX3_goThrough 48 = .ok (.lookupswitch 63 #[(0, 28), (1, 37)], 28) := by decide +kernel
theorem dX3_goThrough_76 : decode cX3_goThrough 76 = .ok (.aload_n 0, 1) := by decide +kernel
theorem dX3_goThrough_77 : decode cX3_goThrough 77 = .ok (.iload 6, 2) := by decide +kernel
theorem dX3_goThrough_79 : decode cX3_goThrough 79 = .ok (.invokevirtual 88, 3) := by decide +kernel
theorem dX3_goThrough_82 : decode cX3_goThrough 82 = .ok (.goto 35, 3) := by decide +kernel
theorem dX3_goThrough_85 : decode cX3_goThrough 85 = .ok (.iload 4, 2) := by decide +kernel
theorem dX3_goThrough_87 : decode cX3_goThrough 87 = .ok (.iload_n 2, 1) := by decide +kernel
theorem dX3_goThrough_88 : decode cX3_goThrough 88 = .ok (.ifCond .le 16, 3) := by decide +kernel
theorem dX3_goThrough_91 : decode cX3_goThrough 91 = .ok (.aload_n 0, 1) := by decide +kernel
theorem dX3_goThrough_92 : decode cX3_goThrough 92 = .ok (.iload 6, 2) := by decide +kernel
theorem dX3_goThrough_94 : decode cX3_goThrough 94 = .ok (.iload_n 2, 1) := by decide +kernel
theorem dX3_goThrough_95 : decode cX3_goThrough 95 = .ok (.iconst 1, 1) := by decide +kernel
theorem dX3_goThrough_96 : decode cX3_goThrough 96 = .ok (.isub, 1) := by decide +kernel
theorem dX3_goThrough_97 : decode cX3_goThrough 97 = .ok (.iload_n 3, 1) := by decide +kernel
theorem dX3_goThrough_98 : decode cX3_goThrough 98 = .ok (.invokevirtual 39, 3) := by decide +kernel
theorem dX3_goThrough_101 : decode cX3_goThrough 101 = .ok (.goto 4, 3) := by decide +kernel
theorem dX3_goThrough_104 : decode cX3_goThrough 104 = .ok (.iconst 0, 1) := by decide +kernel
theorem dX3_goThrough_105 : decode cX3_goThrough 105 = .ok (.iadd, 1) := by decide +kernel
theorem dX3_goThrough_106 : decode cX3_goThrough 106 = .ok (.istore 4, 2) := by decide +kernel
theorem dX3_goThrough_108 : decode cX3_goThrough 108 = .ok (.goto 9, 3) := by decide +kernel
theorem dX3_goThrough_111 : decode cX3_goThrough 111 = .ok (.aload_n 0, 1) := by decide +kernel
theorem dX3_goThrough_112 : decode cX3_goThrough 112 = .ok (.iload 6, 2) := by decide +kernel
theorem dX3_goThrough_114 : decode cX3_goThrough 114 = .ok (.putfield 25, 3) := by decide +kernel
theorem dX3_goThrough_117 : decode cX3_goThrough 117 = .ok (.iinc 5 1, 3) := by decide +kernel
theorem dX3_goThrough_120 : decode cX3_goThrough 120 = .ok (.goto (-114), 3) := by decide +kernel
theorem dX3_goThrough_123 : decode cX3_goThrough 123 = .ok (.iload 4, 2) := by decide +kernel
theorem dX3_goThrough_125 : decode cX3_goThrough 125 = .ok (.ireturn, 1) := by decide +kernel
end
section
theorem dX4_init_0 : decode cX4_init 0 = .ok (.aload_n 0, 1) := by decide +kernel
theorem dX4_init_1 : decode cX4_init 1 = .ok (.invokespecial 3, 3) := by decide +kernel
theorem dX4_init_4 : decode cX4_init 4 = .ok (.aload_n 0, 1) := by decide +kernel
theorem dX4_init_5 : decode cX4_init 5 = .ok (.sipush 130, 3) := by decide +kernel
theorem dX4_init_8 : decode cX4_init 8 = .ok (.newarray .int, 2) := by decide +kernel
theorem dX4_init_10 : decode cX4_init 10 = .ok (.putfield 9, 3) := by decide +kernel
theorem dX4_init_13 : decode cX4_init 13 = .ok (.aload_n 0, 1) := by decide +kernel
theorem dX4_init_14 : decode cX4_init 14 = .ok (.iconst 0, 1) := by decide +kernel
theorem dX4_init_15 : decode cX4_init 15 = .ok (.putfield 15, 3) := by decide +kernel
theorem dX4_init_18 : decode cX4_init 18 = .ok (.aload_n 0, 1) := by decide +kernel
theorem dX4_init_19 : decode cX4_init 19 = .ok (.iconst 0, 1) := by decide +kernel
theorem dX4_init_20 : decode cX4_init 20 = .ok (.putfield 19, 3) := by decide +kernel
theorem dX4_init_23 : decode cX4_init 23 = .ok (.aload_n 0, 1) := by decide +kernel
theorem dX4_init_24 : decode cX4_init 24 = .ok (.iconst 0, 1) := by decide +kernel
theorem dX4_init_25 : decode cX4_init 25 = .ok (.putfield 22, 3) := by decide +kernel
theorem dX4_init_28 : decode cX4_init 28 = .ok (.aload_n 0, 1) := by decide +kernel
theorem dX4_init_29 : decode cX4_init 29 = .ok (.bipush (-2), 2) := by decide +kernel
theorem dX4_init_31 : decode cX4_init 31 = .ok (.putfield 25, 3) := by decide +kernel
theorem dX4_init_34 : decode cX4_init 34 = .ok (.aload_n 0, 1) := by decide +kernel
theorem dX4_init_35 : decode cX4_init 35 = .ok (.iconst 0, 1) := by decide +kernel
theorem dX4_init_36 : decode cX4_init 36 = .ok (.putfield 28, 3) := by decide +kernel
theorem dX4_init_39 : decode cX4_init 39 = .ok (.aload_n 0, 1) := by decide +kernel
theorem dX4_init_40 : decode cX4_init 40 = .ok (.iconst 0, 1) := by decide +kernel
theorem dX4_init_41 : decode cX4_init 41 = .ok (.putfield 31, 3) := by decide +kernel
theorem dX4_init_44 : decode cX4_init 44 = .ok (.return_, 1) := by decide +kernel
theorem dX4_size_0 : decode cX4_size 0 = .ok (.aload_n 0, 1) := by decide +kernel
theorem dX4_size_1 : decode cX4_size 1 = .ok (.getfield 15, 3) := by decide +kernel
theorem dX4_size_4 : decode cX4_size 4 = .ok (.ireturn, 1) := by decide +kernel
theorem dX4_faultPlace_0 : decode cX4_faultPlace 0 = .ok (.aload_n 0, 1) := by decide +kernel
theorem dX4_faultPlace_1 : decode cX4_faultPlace 1 = .ok (.getfield 19, 3) := by decide +kernel
theorem dX4_faultPlace_4 : decode cX4_faultPlace 4 = .ok (.ireturn, 1) := by decide +kernel
theorem dX4_add_0 : decode cX4_add 0 = .ok (.aload_n 0, 1) := by decide +kernel
theorem dX4_add_1 : decode cX4_add 1 = .ok (.getfield 15, 3) := by decide +kernel
theorem dX4_add_4 : decode cX4_add 4 = .ok (.sipush 130, 3) := by decide +kernel
theorem dX4_add_7 : decode cX4_add 7 = .ok (.if_icmp .lt 5, 3) := by decide +kernel
theorem dX4_add_10 : decode cX4_add 10 = .ok (.iconst 0, 1) := by decide +kernel
theorem dX4_add_11 : decode cX4_add 11 = .ok (.ireturn, 1) := by decide +kernel
theorem dX4_add_12 : decode cX4_add 12 = .ok (.aload_n 0, 1) := by decide +kernel
theorem dX4_add_13 : decode cX4_add 13 = .ok (.getfield 9, 3) := by decide +kernel
theorem dX4_add_16 : decode cX4_add 16 = .ok (.aload_n 0, 1) := by decide +kernel
theorem dX4_add_17 : decode cX4_add 17 = .ok (.getfield 15, 3) := by decide +kernel
theorem dX4_add_20 : decode cX4_add 20 = .ok (.iload_n 1, 1) := by decide +kernel
theorem dX4_add_21 : decode cX4_add 21 = .ok (.iastore, 1) := by decide +kernel
theorem dX4_add_22 : decode cX4_add 22 = .ok (.aload_n 0, 1) := by decide +kernel
theorem dX4_add_23 : decode cX4_add 23 = .ok (.dup, 1) := by decide +kernel
theorem dX4_add_24 : decode cX4_add 24 = .ok (.getfield 15, 3) := by decide +kernel
theorem dX4_add_27 : decode cX4_add 27 = .ok (.iconst 1, 1) := by decide +kernel
theorem dX4_add_28 : decode cX4_add 28 = .ok (.iadd, 1) := by decide +kernel
theorem dX4_add_29 : decode cX4_add 29 = .ok (.putfield 15, 3) := by decide +kernel
theorem dX4_add_32 : decode cX4_add 32 = .ok (.iconst 1, 1) := by decide +kernel
theorem dX4_add_33 : decode cX4_add 33 = .ok (.ireturn, 1) := by decide +kernel
theorem dX4_read_0 : decode cX4_read 0 = .ok (.aload_n 1, 1) := by decide +kernel
theorem dX4_read_1 : decode cX4_read 1 = .ok (.invokevirtual 34, 3) := by decide +kernel
theorem dX4_read_4 : decode cX4_read 4 = .ok (.aload_n 0, 1) := by decide +kernel
theorem dX4_read_5 : decode cX4_read 5 = .ok (.iconst 0, 1) := by decide +kernel
theorem dX4_read_6 : decode cX4_read 6 = .ok (.putfield 31, 3) := by decide +kernel
theorem dX4_read_9 : decode cX4_read 9 = .ok (.aload_n 0, 1) := by decide +kernel
theorem dX4_read_10 : decode cX4_read 10 = .ok (.iconst 0, 1) := by decide +kernel
theorem dX4_read_11 : decode cX4_read 11 = .ok (.putfield 22, 3) := by decide +kernel
theorem dX4_read_14 : decode cX4_read 14 = .ok (.aload_n 0, 1) := by decide +kernel
theorem dX4_read_15 : decode cX4_read 15 = .ok (.invokevirtual 39, 3) := by decide +kernel
theorem dX4_read_18 : decode cX4_read 18 = .ok (.aload_n 0, 1) := by decide +kernel
theorem dX4_read_19 : decode cX4_read 19 = .ok (.aload_n 1, 1) := by decide +kernel
theorem dX4_read_20 : decode cX4_read 20 = .ok (.invokevirtual 42, 3) := by decide +kernel
theorem dX4_read_23 : decode cX4_read 23 = .ok (.aload_n 0, 1) := by decide +kernel
theorem dX4_read_24 : decode cX4_read 24 = .ok (.aload_n 1, 1) := by decide +kernel
theorem dX4_read_25 : decode cX4_read 25 = .ok (.invokevirtual 46, 3) := by decide +kernel
theorem dX4_read_28 : decode cX4_read 28 = .ok (.aload_n 0, 1) := by decide +kernel
theorem dX4_read_29 : decode cX4_read 29 = .ok (.getfield 25, 3) := by decide +kernel
theorem dX4_read_32 : decode cX4_read 32 = .ok (.bipush (-2), 2) := by decide +kernel
theorem dX4_read_34 : decode cX4_read 34 = .ok (.if_icmp .eq 11, 3) := by decide +kernel
theorem dX4_read_37 : decode cX4_read 37 = .ok (.aload_n 0, 1) := by decide +kernel
theorem dX4_read_38 : decode cX4_read 38 = .ok (.iconst 1, 1) := by decide +kernel
theorem dX4_read_39 : decode cX4_read 39 = .ok (.invokevirtual 49, 3) := by decide +kernel
theorem dX4_read_42 : decode cX4_read 42 = .ok (.goto 22, 3) := by decide +kernel
theorem dX4_read_45 : decode cX4_read 45 = .ok (.aload_n 0, 1) := by decide +kernel
theorem dX4_read_46 : decode cX4_read 46 = .ok (.getfield 31, 3) := by decide +kernel
theorem dX4_read_49 : decode cX4_read 49 = .ok (.ifCond .ne 15, 3) := by decide +kernel
theorem dX4_read_52 : decode cX4_read 52 = .ok (.aload_n 1, 1) := by decide +kernel
theorem dX4_read_53 : decode cX4_read 53 = .ok (.invokevirtual 53, 3) := by decide +kernel
theorem dX4_read_56 : decode cX4_read 56 = .ok (.ifCond .ne 8, 3) := by decide +kernel
theorem dX4_read_59 : decode cX4_read 59 = .ok (.aload_n 0, 1) := by decide +kernel
theorem dX4_read_60 : decode cX4_read 60 = .ok (.iconst 4, 1) := by decide +kernel
theorem dX4_read_61 : decode cX4_read 61 = .ok (.invokevirtual 49, 3) := by decide +kernel
theorem dX4_read_64 : decode cX4_read 64 = .ok (.aload_n 0, 1) := by decide +kernel
theorem dX4_read_65 : decode cX4_read 65 = .ok (.iconst 0, 1) := by decide +kernel
theorem dX4_read_66 : decode cX4_read 66 = .ok (.putfield 15, 3) := by decide +kernel
theorem dX4_read_69 : decode cX4_read 69 = .ok (.aload_n 0, 1) := by decide +kernel
theorem dX4_read_70 : decode cX4_read 70 = .ok (.getfield 31, 3) := by decide +kernel
theorem dX4_read_73 : decode cX4_read 73 = .ok (.ireturn, 1) := by decide +kernel
theorem dX4_readMethods_0 : decode cX4_readMethods 0 = .ok (.iconst 0, 1) := by decide +kernel
theorem dX4_readMethods_1 : decode cX4_readMethods 1 = .ok (.istore_n 2, 1) := by decide +kernel
theorem dX4_readMethods_2 : decode cX4_readMethods 2 = .ok (.iload_n 2, 1) := by decide +kernel
theorem dX4_readMethods_3 : decode cX4_readMethods 3 = .ok (.bipush 6, 2) := by decide +kernel
theorem dX4_readMethods_5 : decode cX4_readMethods 5 = .ok (.if_icmp .gt 34, 3) := by decide +kernel
theorem dX4_readMethods_8 : decode cX4_readMethods 8 = .ok (.aload_n 0, 1) := by decide +kernel
theorem dX4_readMethods_9 : decode cX4_readMethods 9 = .ok (.getfield 31, 3) := by decide +kernel
theorem dX4_readMethods_12 : decode cX4_readMethods 12 = .ok (.ifCond .ne 27, 3) := by decide +kernel
theorem dX4_readMethods_15 : decode cX4_readMethods 15 = .ok (.iload_n 2, 1) := by decide +kernel
theorem dX4_readMethods_16 : decode cX4_readMethods 16 = .ok (.ifCond .eq 12, 3) := by decide +kernel
theorem dX4_readMethods_19 : decode cX4_readMethods 19 = .ok (.aload_n 0, 1) := by decide +kernel
theorem dX4_readMethods_20 : decode cX4_readMethods 20 = .ok (.getfield 25, 3) := by decide +kernel
theorem dX4_readMethods_23 : decode cX4_readMethods 23 = .ok (.bipush 109, 2) := by decide +kernel
theorem dX4_readMethods_25 : decode cX4_readMethods 25 = .ok (.if_icmp .ne 14, 3) := by decide +kernel
theorem dX4_readMethods_28 : decode cX4_readMethods 28 = .ok (.aload_n 0, 1) := by decide +kernel
theorem dX4_readMethods_29 : decode cX4_readMethods 29 = .ok (.aload_n 1, 1) := by decide +kernel
theorem dX4_readMethods_30 : decode cX4_readMethods 30 = .ok (.invokevirtual 57, 3) := by decide +kernel
theorem dX4_readMethods_33 : decode cX4_readMethods 33 = .ok (.iinc 2 1, 3) := by decide +kernel
theorem dX4_readMethods_36 : decode cX4_readMethods 36 = .ok (.goto (-34), 3) := by decide +kernel
theorem dX4_readMethods_39 : decode cX4_readMethods 39 = .ok (.return_, 1) := by decide +kernel
theorem dX4_readMethod_0 : decode cX4_readMethod 0 = .ok (.aload_n 0, 1) := by decide +kernel
theorem dX4_readMethod_1 : decode cX4_readMethod 1 = .ok (.getfield 25, 3) := by decide +kernel
theorem dX4_readMethod_4 : decode cX4_readMethod 4 = .ok (.bipush 109, 2) := by decide +kernel
theorem dX4_readMethod_6 : decode cX4_readMethod 6 = .ok (.if_icmp .eq 9, 3) := by decide +kernel
theorem dX4_readMethod_9 : decode cX4_readMethod 9 = .ok (.aload_n 0, 1) := by decide +kernel
theorem dX4_readMethod_10 : decode cX4_readMethod 10 = .ok (.iconst 1, 1) := by decide +kernel
theorem dX4_readMethod_11 : decode cX4_readMethod 11 = .ok (.invokevirtual 49, 3) := by decide +kernel
theorem dX4_readMethod_14 : decode cX4_readMethod 14 = .ok (.return_, 1) := by decide +kernel
theorem dX4_readMethod_15 : decode cX4_readMethod 15 = .ok (.aload_n 1, 1) := by decide +kernel
theorem dX4_readMethod_16 : decode cX4_readMethod 16 = .ok (.invokevirtual 60, 3) := by decide +kernel
theorem dX4_readMethod_19 : decode cX4_readMethod 19 = .ok (.bipush 6, 2) := by decide +kernel
theorem dX4_readMethod_21 : decode cX4_readMethod 21 = .ok (.if_icmp .lt 9, 3) := by decide +kernel
theorem dX4_readMethod_24 : decode cX4_readMethod 24 = .ok (.aload_n 0, 1) := by decide +kernel
theorem dX4_readMethod_25 : decode cX4_readMethod 25 = .ok (.iconst 3, 1) := by decide +kernel
theorem dX4_readMethod_26 : decode cX4_readMethod 26 = .ok (.invokevirtual 49, 3) := by decide +kernel
theorem dX4_readMethod_29 : decode cX4_readMethod 29 = .ok (.return_, 1) := by decide +kernel
theorem dX4_readMethod_30 : decode cX4_readMethod 30 = .ok (.aload_n 0, 1) := by decide +kernel
theorem dX4_readMethod_31 : decode cX4_readMethod 31 = .ok (.invokevirtual 39, 3) := by decide +kernel
theorem dX4_readMethod_34 : decode cX4_readMethod 34 = .ok (.aload_n 1, 1) := by decide +kernel
theorem dX4_readMethod_35 : decode cX4_readMethod 35 = .ok (.aload_n 0, 1) := by decide +kernel
theorem dX4_readMethod_36 : decode cX4_readMethod 36 = .ok (.iconst 0, 1) := by decide +kernel
theorem dX4_readMethod_37 : decode cX4_readMethod 37 = .ok (.iconst 3, 1) := by decide +kernel
theorem dX4_readMethod_38 : decode cX4_readMethod 38 = .ok (.invokevirtual 64, 3) := by decide +kernel
theorem dX4_readMethod_41 : decode cX4_readMethod 41 = .ok (.invokevirtual 68, 3) := by decide +kernel
theorem dX4_readMethod_44 : decode cX4_readMethod 44 = .ok (.iconst 0, 1) := by decide +kernel
theorem dX4_readMethod_45 : decode cX4_readMethod 45 = .ok (.istore_n 2, 1) := by decide +kernel
theorem dX4_readMethod_46 : decode cX4_readMethod 46 = .ok (.iload_n 2, 1) := by decide +kernel
theorem dX4_readMethod_47 : decode cX4_readMethod 47 = .ok (.iconst 4, 1) := by decide +kernel
theorem dX4_readMethod_48 : decode cX4_readMethod 48 = .ok (.if_icmp .gt 31, 3) := by decide +kernel
theorem dX4_readMethod_51 : decode cX4_readMethod 51 = .ok (.aload_n 0, 1) := by decide +kernel
theorem dX4_readMethod_52 : decode cX4_readMethod 52 = .ok (.getfield 31, 3) := by decide +kernel
theorem dX4_readMethod_55 : decode cX4_readMethod 55 = .ok (.ifCond .ne 24, 3) := by decide +kernel
theorem dX4_readMethod_58 : decode cX4_readMethod 58 = .ok (.aload_n 0, 1) := by decide +kernel
theorem dX4_readMethod_59 : decode cX4_readMethod 59 = .ok (.getfield 25, 3) := by decide +kernel
theorem dX4_readMethod_62 : decode cX4_readMethod 62 = .ok (.bipush 59, 2) := by decide +kernel
theorem dX4_readMethod_64 : decode cX4_readMethod 64 = .ok (.if_icmp .eq 15, 3) := by decide +kernel
theorem dX4_readMethod_67 : decode cX4_readMethod 67 = .ok (.aload_n 0, 1) := by decide +kernel
theorem dX4_readMethod_68 : decode cX4_readMethod 68 = .ok (.aload_n 1, 1) := by decide +kernel
theorem dX4_readMethod_69 : decode cX4_readMethod 69 = .ok (.iload_n 2, 1) := by decide +kernel
theorem dX4_readMethod_70 : decode cX4_readMethod 70 = .ok (.invokevirtual 71, 3) := by decide +kernel
theorem dX4_readMethod_73 : decode cX4_readMethod 73 = .ok (.iinc 2 1, 3) := by decide +kernel
theorem dX4_readMethod_76 : decode cX4_readMethod 76 = .ok (.goto (-30), 3) := by decide +kernel
theorem dX4_readMethod_79 : decode cX4_readMethod 79 = .ok (.aload_n 0, 1) := by decide +kernel
theorem dX4_readMethod_80 : decode cX4_readMethod 80 = .ok (.bipush 59, 2) := by decide +kernel
theorem dX4_readMethod_82 : decode cX4_readMethod 82 = .ok (.invokevirtual 75, 3) := by decide +kernel
theorem dX4_readMethod_85 : decode cX4_readMethod 85 = .ok (.return_, 1) := by decide +kernel
theorem dX4_readStatement_0 : decode cX4_readStatement 0 = .ok (.aload_n 0, 1) := by decide +kernel
theorem dX4_readStatement_1 : decode cX4_readStatement 1 = .ok (.getfield 25, 3) := by decide +kernel
theorem dX4_readStatement_4 : decode cX4_readStatement 4 = .ok (.invokestatic 78, 3) := by decide +kernel
theorem dX4_readStatement_7 : decode cX4_readStatement 7 = .ok (.istore_n 3, 1) := by decide +kernel
theorem dX4_readStatement_8 : decode cX4_readStatement 8 = .ok (.iload_n 2, 1) := by decide +kernel
theorem dX4_readStatement_9 : decode cX4_readStatement 9 = .ok (.iconst 4, 1) := by decide +kernel
theorem dX4_readStatement_10 : decode cX4_readStatement 10 = .ok (.if_icmp .ge 7, 3) := by decide +kernel
theorem dX4_readStatement_13 : decode cX4_readStatement 13 = .ok (.iload_n 3, 1) := by decide +kernel
theorem dX4_readStatement_14 : decode cX4_readStatement 14 = .ok (.ifCond .ge 9, 3) := by decide +kernel
theorem dX4_readStatement_17 : decode cX4_readStatement 17 = .ok (.aload_n 0, 1) := by decide +kernel
theorem dX4_readStatement_18 : decode cX4_readStatement 18 = .ok (.iconst 1, 1) := by decide +kernel
theorem dX4_readStatement_19 : decode cX4_readStatement 19 = .ok (.invokevirtual 49, 3) := by decide +kernel
theorem dX4_readStatement_22 : decode cX4_readStatement 22 = .ok (.return_, 1) := by decide +kernel
theorem dX4_readStatement_23 : decode cX4_readStatement 23 = .ok (.aload_n 0, 1) := by decide +kernel
theorem dX4_readStatement_24 : decode cX4_readStatement 24 = .ok (.invokevirtual 39, 3) := by decide +kernel
theorem dX4_readStatement_27 : decode cX4_readStatement 27 = .ok (.iload_n 3, 1) := by decide +kernel
theorem dX4_readStatement_28 : decode cX4_readStatement 28 = .ok (.iconst 1, 1) := by decide +kernel
theorem dX4_readStatement_29 : decode cX4_readStatement 29 = .ok (.if_icmp .ne 7, 3) := by decide +kernel
theorem dX4_readStatement_32 : decode cX4_readStatement 32 = .ok (.iconst 0, 1) := by decide +kernel
theorem dX4_readStatement_33 : decode cX4_readStatement 33 = .ok (.goto 4, 3) := by decide +kernel
theorem dX4_readStatement_36 : decode cX4_readStatement 36 = .ok (.iconst 1, 1) := by decide +kernel
theorem dX4_readStatement_37 : decode cX4_readStatement 37 = .ok (.istore 4, 2) := by decide +kernel
theorem dX4_readStatement_39 : decode cX4_readStatement 39 = .ok (.iload_n 3, 1) := by decide +kernel
theorem dX4_readStatement_40 : decode cX4_readStatement 40 = .ok (.ifCond .ne 8, 3) := by decide +kernel
theorem dX4_readStatement_43 : decode cX4_readStatement 43 = .ok (.bipush 99, 2) := by decide +kernel
theorem dX4_readStatement_45 : decode cX4_readStatement 45 = .ok (.goto 14, 3) := by decide +kernel
theorem dX4_readStatement_48 : decode cX4_readStatement 48 = .ok (.iload_n 3, 1) := by decide +kernel
theorem dX4_readStatement_49 : decode cX4_readStatement 49 = .ok (.iconst 1, 1) := by decide +kernel
theorem dX4_readStatement_50 : decode cX4_readStatement 50 = .ok (.if_icmp .ne 7, 3) := by decide +kernel
theorem dX4_readStatement_53 : decode cX4_readStatement 53 = .ok (.iconst 5, 1) := by decide +kernel
theorem dX4_readStatement_54 : decode cX4_readStatement 54 = .ok (.goto 5, 3) := by decide +kernel
theorem dX4_readStatement_57 : decode cX4_readStatement 57 = .ok (.bipush 9, 2) := by decide +kernel
theorem dX4_readStatement_59 : decode cX4_readStatement 59 = .ok (.istore 5, 2) := by decide +kernel
theorem dX4_readStatement_61 : decode cX4_readStatement 61 = .ok (.aload_n 1, 1) := by decide +kernel
theorem dX4_readStatement_62 : decode cX4_readStatement 62 = .ok (.iload_n 3, 1) := by decide +kernel
theorem dX4_readStatement_63 : decode cX4_readStatement 63 = .ok (.aload_n 0, 1) := by decide +kernel
theorem dX4_readStatement_64 : decode cX4_readStatement 64 = .ok (.iload 4, 2) := by decide +kernel
theorem dX4_readStatement_66 : decode cX4_readStatement 66 = .ok (.iload 5, 2) := by decide +kernel
theorem dX4_readStatement_68 : decode cX4_readStatement 68 = .ok (.invokevirtual 64, 3) := by decide +kernel
theorem dX4_readStatement_71 : decode cX4_readStatement 71 = .ok (.invokevirtual 82, 3) := by decide +kernel
theorem dX4_readStatement_74 : decode cX4_readStatement 74 = .ok (.return_, 1) := by decide +kernel
theorem dX4_readAllAdvice_0 : decode cX4_readAllAdvice 0 = .ok (.iconst 0, 1) := by decide +kernel
theorem dX4_readAllAdvice_1 : decode cX4_readAllAdvice 1 = .ok (.istore_n 2, 1) := by decide +kernel
theorem dX4_readAllAdvice_2 : decode cX4_readAllAdvice 2 = .ok (.iload_n 2, 1) := by decide +kernel
theorem dX4_readAllAdvice_3 : decode cX4_readAllAdvice 3 = .ok (.iconst 5, 1) := by decide +kernel
theorem dX4_readAllAdvice_4 : decode cX4_readAllAdvice 4 = .ok (.if_icmp .gt 31, 3) := by decide +kernel
theorem dX4_readAllAdvice_7 : decode cX4_readAllAdvice 7 = .ok (.aload_n 0, 1) := by decide +kernel
theorem dX4_readAllAdvice_8 : decode cX4_readAllAdvice 8 = .ok (.getfield 31, 3) := by decide +kernel
theorem dX4_readAllAdvice_11 : decode cX4_readAllAdvice 11 = .ok (.ifCond .ne 24, 3) := by decide +kernel
theorem dX4_readAllAdvice_14 : decode cX4_readAllAdvice 14 = .ok (.aload_n 0, 1) := by decide +kernel
theorem dX4_readAllAdvice_15 : decode cX4_readAllAdvice 15 = .ok (.getfield 25, 3) := by decide +kernel
theorem dX4_readAllAdvice_18 : decode cX4_readAllAdvice 18 = .ok (.invokestatic 86, 3) := by decide +kernel
theorem dX4_readAllAdvice_21 : decode cX4_readAllAdvice 21 = .ok (.ifCond .eq 14, 3) := by decide +kernel
theorem dX4_readAllAdvice_24 : decode cX4_readAllAdvice 24 = .ok (.aload_n 0, 1) := by decide +kernel
theorem dX4_readAllAdvice_25 : decode cX4_readAllAdvice 25 = .ok (.aload_n 1, 1) := by decide +kernel
theorem dX4_readAllAdvice_26 : decode cX4_readAllAdvice 26 = .ok (.invokevirtual 89, 3) := by decide +kernel
theorem dX4_readAllAdvice_29 : decode cX4_readAllAdvice 29 = .ok (.iinc 2 1, 3) := by decide +kernel
theorem dX4_readAllAdvice_32 : decode cX4_readAllAdvice 32 = .ok (.goto (-30), 3) := by decide +kernel
theorem dX4_readAllAdvice_35 : decode cX4_readAllAdvice 35 = .ok (.return_, 1) := by decide +kernel
theorem dX4_readAdvice_0 : decode cX4_readAdvice 0 = .ok (.aload_n 1, 1) := by decide +kernel
theorem dX4_readAdvice_1 : decode cX4_readAdvice 1 = .ok (.invokevirtual 92, 3) := by decide +kernel
theorem dX4_readAdvice_4 : decode cX4_readAdvice 4 = .ok (.iconst 5, 1) := by decide +kernel
theorem dX4_readAdvice_5 : decode cX4_readAdvice 5 = .ok (.if_icmp .lt 9, 3) := by decide +kernel
theorem dX4_readAdvice_8 : decode cX4_readAdvice 8 = .ok (.aload_n 0, 1) := by decide +kernel
theorem dX4_readAdvice_9 : decode cX4_readAdvice 9 = .ok (.iconst 3, 1) := by decide +kernel
theorem dX4_readAdvice_10 : decode cX4_readAdvice 10 = .ok (.invokevirtual 49, 3) := by decide +kernel
theorem dX4_readAdvice_13 : decode cX4_readAdvice 13 = .ok (.return_, 1) := by decide +kernel
theorem dX4_readAdvice_14 : decode cX4_readAdvice 14 = .ok (.aload_n 1, 1) := by decide +kernel
theorem dX4_readAdvice_15 : decode cX4_readAdvice 15 = .ok (.aload_n 0, 1) := by decide +kernel
theorem dX4_readAdvice_16 : decode cX4_readAdvice 16 = .ok (.getfield 25, 3) := by decide +kernel
theorem dX4_readAdvice_19 : decode cX4_readAdvice 19 = .ok (.invokestatic 86, 3) := by decide +kernel
theorem dX4_readAdvice_22 : decode cX4_readAdvice 22 = .ok (.invokevirtual 95, 3) := by decide +kernel
theorem dX4_readAdvice_25 : decode cX4_readAdvice 25 = .ok (.istore_n 2, 1) := by decide +kernel
theorem dX4_readAdvice_26 : decode cX4_readAdvice 26 = .ok (.aload_n 0, 1) := by decide +kernel
theorem dX4_readAdvice_27 : decode cX4_readAdvice 27 = .ok (.invokevirtual 39, 3) := by decide +kernel
theorem dX4_readAdvice_30 : decode cX4_readAdvice 30 = .ok (.aload_n 1, 1) := by decide +kernel
theorem dX4_readAdvice_31 : decode cX4_readAdvice 31 = .ok (.iload_n 2, 1) := by decide +kernel
theorem dX4_readAdvice_32 : decode cX4_readAdvice 32 = .ok (.iconst 0, 1) := by decide +kernel
theorem dX4_readAdvice_33 : decode cX4_readAdvice 33 = .ok (.aload_n 0, 1) := by decide +kernel
theorem dX4_readAdvice_34 : decode cX4_readAdvice 34 = .ok (.iconst 1, 1) := by decide +kernel
theorem dX4_readAdvice_35 : decode cX4_readAdvice 35 = .ok (.bipush 99, 2) := by decide +kernel
theorem dX4_readAdvice_37 : decode cX4_readAdvice 37 = .ok (.invokevirtual 64, 3) := by decide +kernel
theorem dX4_readAdvice_40 : decode cX4_readAdvice 40 = .ok (.invokevirtual 98, 3) := by decide +kernel
theorem dX4_readAdvice_43 : decode cX4_readAdvice 43 = .ok (.aload_n 0, 1) := by decide +kernel
theorem dX4_readAdvice_44 : decode cX4_readAdvice 44 = .ok (.bipush 44, 2) := by decide +kernel
theorem dX4_readAdvice_46 : decode cX4_readAdvice 46 = .ok (.invokevirtual 75, 3) := by decide +kernel
theorem dX4_readAdvice_49 : decode cX4_readAdvice 49 = .ok (.aload_n 1, 1) := by decide +kernel
theorem dX4_readAdvice_50 : decode cX4_readAdvice 50 = .ok (.iload_n 2, 1) := by decide +kernel
theorem dX4_readAdvice_51 : decode cX4_readAdvice 51 = .ok (.iconst 1, 1) := by decide +kernel
theorem dX4_readAdvice_52 : decode cX4_readAdvice 52 = .ok (.aload_n 0, 1) := by decide +kernel
theorem dX4_readAdvice_53 : decode cX4_readAdvice 53 = .ok (.iconst 0, 1) := by decide +kernel
theorem dX4_readAdvice_54 : decode cX4_readAdvice 54 = .ok (.iconst 4, 1) := by decide +kernel
theorem dX4_readAdvice_55 : decode cX4_readAdvice 55 = .ok (.invokevirtual 64, 3) := by decide +kernel
theorem dX4_readAdvice_58 : decode cX4_readAdvice 58 = .ok (.invokevirtual 98, 3) := by decide +kernel
theorem dX4_readAdvice_61 : decode cX4_readAdvice 61 = .ok (.aload_n 0, 1) := by decide +kernel
theorem dX4_readAdvice_62 : decode cX4_readAdvice 62 = .ok (.bipush 44, 2) := by decide +kernel
theorem dX4_readAdvice_64 : decode cX4_readAdvice 64 = .ok (.invokevirtual 75, 3) := by decide +kernel
theorem dX4_readAdvice_67 : decode cX4_readAdvice 67 = .ok (.aload_n 1, 1) := by decide +kernel
theorem dX4_readAdvice_68 : decode cX4_readAdvice 68 = .ok (.iload_n 2, 1) := by decide +kernel
theorem dX4_readAdvice_69 : decode cX4_readAdvice 69 = .ok (.iconst 2, 1) := by decide +kernel
theorem dX4_readAdvice_70 : decode cX4_readAdvice 70 = .ok (.aload_n 0, 1) := by decide +kernel
theorem dX4_readAdvice_71 : decode cX4_readAdvice 71 = .ok (.iconst 0, 1) := by decide +kernel
theorem dX4_readAdvice_72 : decode cX4_readAdvice 72 = .ok (.bipush 6, 2) := by decide +kernel
theorem dX4_readAdvice_74 : decode cX4_readAdvice 74 = .ok (.invokevirtual 64, 3) := by decide +kernel
theorem dX4_readAdvice_77 : decode cX4_readAdvice 77 = .ok (.invokevirtual 98, 3) := by decide +kernel
theorem dX4_readAdvice_80 : decode cX4_readAdvice 80 = .ok (.aload_n 0, 1) := by decide +kernel
theorem dX4_readAdvice_81 : decode cX4_readAdvice 81 = .ok (.bipush 44, 2) := by decide +kernel
theorem dX4_readAdvice_83 : decode cX4_readAdvice 83 = .ok (.invokevirtual 75, 3) := by decide +kernel
theorem dX4_readAdvice_86 : decode cX4_readAdvice 86 = .ok (.aload_n 1, 1) := by decide +kernel
theorem dX4_readAdvice_87 : decode cX4_readAdvice 87 = .ok (.iload_n 2, 1) := by decide +kernel
theorem dX4_readAdvice_88 : decode cX4_readAdvice 88 = .ok (.iconst 3, 1) := by decide +kernel
theorem dX4_readAdvice_89 : decode cX4_readAdvice 89 = .ok (.aload_n 0, 1) := by decide +kernel
theorem dX4_readAdvice_90 : decode cX4_readAdvice 90 = .ok (.iconst 0, 1) := by decide +kernel
theorem dX4_readAdvice_91 : decode cX4_readAdvice 91 = .ok (.bipush 10, 2) := by decide +kernel
theorem dX4_readAdvice_93 : decode cX4_readAdvice 93 = .ok (.invokevirtual 64, 3) := by decide +kernel
theorem dX4_readAdvice_96 : decode cX4_readAdvice 96 = .ok (.invokevirtual 98, 3) := by decide +kernel
theorem dX4_readAdvice_99 : decode cX4_readAdvice 99 = .ok (.aload_n 0, 1) := by decide +kernel
theorem dX4_readAdvice_100 : decode cX4_readAdvice 100 = .ok (.bipush 44, 2) := by decide +kernel
theorem dX4_readAdvice_102 : decode cX4_readAdvice 102 = .ok (.invokevirtual 75, 3) := by decide +kernel
theorem dX4_readAdvice_105 : decode cX4_readAdvice 105 = .ok (.aload_n 1, 1) := by decide +kernel
theorem dX4_readAdvice_106 : decode cX4_readAdvice 106 = .ok (.iload_n 2, 1) := by decide +kernel
theorem dX4_readAdvice_107 : decode cX4_readAdvice 107 = .ok (.iconst 4, 1) := by decide +kernel
theorem dX4_readAdvice_108 : decode cX4_readAdvice 108 = .ok (.aload_n 0, 1) := by decide +kernel
theorem dX4_readAdvice_109 : decode cX4_readAdvice 109 = .ok (.iconst 0, 1) := by decide +kernel
theorem dX4_readAdvice_110 : decode cX4_readAdvice 110 = .ok (.bipush 6, 2) := by decide +kernel
theorem dX4_readAdvice_112 : decode cX4_readAdvice 112 = .ok (.invokevirtual 64, 3) := by decide +kernel
theorem dX4_readAdvice_115 : decode cX4_readAdvice 115 = .ok (.invokevirtual 98, 3) := by decide +kernel
theorem dX4_readAdvice_118 : decode cX4_readAdvice 118 = .ok (.aload_n 0, 1) := by decide +kernel
theorem dX4_readAdvice_119 : decode cX4_readAdvice 119 = .ok (.bipush 59, 2) := by decide +kernel
theorem dX4_readAdvice_121 : decode cX4_readAdvice 121 = .ok (.invokevirtual 75, 3) := by decide +kernel
theorem dX4_readAdvice_124 : decode cX4_readAdvice 124 = .ok (.return_, 1) := by decide +kernel
theorem dX4_readNumber_0 : decode cX4_readNumber 0 = .ok (.aload_n 0, 1) := by decide +kernel
theorem dX4_readNumber_1 : decode cX4_readNumber 1 = .ok (.getfield 31, 3) := by decide +kernel
theorem dX4_readNumber_4 : decode cX4_readNumber 4 = .ok (.ifCond .eq 5, 3) := by decide +kernel
theorem dX4_readNumber_7 : decode cX4_readNumber 7 = .ok (.iload_n 1, 1) := by decide +kernel
theorem dX4_readNumber_8 : decode cX4_readNumber 8 = .ok (.ireturn, 1) := by decide +kernel
theorem dX4_readNumber_9 : decode cX4_readNumber 9 = .ok (.aload_n 0, 1) := by decide +kernel
theorem dX4_readNumber_10 : decode cX4_readNumber 10 = .ok (.getfield 25, 3) := by decide +kernel
theorem dX4_readNumber_13 : decode cX4_readNumber 13 = .ok (.iconst (-1), 1) := by decide +kernel
theorem dX4_readNumber_14 : decode cX4_readNumber 14 = .ok (.if_icmp .eq 10, 3) := by decide +kernel
theorem dX4_readNumber_17 : decode cX4_readNumber 17 = .ok (.aload_n 0, 1) := by decide +kernel
theorem dX4_readNumber_18 : decode cX4_readNumber 18 = .ok (.iconst 1, 1) := by decide +kernel
theorem dX4_readNumber_19 : decode cX4_readNumber 19 = .ok (.invokevirtual 49, 3) := by decide +kernel
theorem dX4_readNumber_22 : decode cX4_readNumber 22 = .ok (.iload_n 1, 1) := by decide +kernel
theorem dX4_readNumber_23 : decode cX4_readNumber 23 = .ok (.ireturn, 1) := by decide +kernel
theorem dX4_readNumber_24 : decode cX4_readNumber 24 = .ok (.aload_n 0, 1) := by decide +kernel
theorem dX4_readNumber_25 : decode cX4_readNumber 25 = .ok (.getfield 28, 3) := by decide +kernel
theorem dX4_readNumber_28 : decode cX4_readNumber 28 = .ok (.iload_n 1, 1) := by decide +kernel
theorem dX4_readNumber_29 : decode cX4_readNumber 29 = .ok (.iload_n 2, 1) := by decide +kernel
theorem dX4_readNumber_30 : decode cX4_readNumber 30 = .ok (.invokestatic 102, 3) := by decide +kernel
theorem dX4_readNumber_33 : decode cX4_readNumber 33 = .ok (.ifCond .ne 10, 3) := by decide +kernel
theorem dX4_readNumber_36 : decode cX4_readNumber 36 = .ok (.aload_n 0, 1) := by decide +kernel
theorem dX4_readNumber_37 : decode cX4_readNumber 37 = .ok (.iconst 2, 1) := by decide +kernel
theorem dX4_readNumber_38 : decode cX4_readNumber 38 = .ok (.invokevirtual 49, 3) := by decide +kernel
theorem dX4_readNumber_41 : decode cX4_readNumber 41 = .ok (.iload_n 1, 1) := by decide +kernel
theorem dX4_readNumber_42 : decode cX4_readNumber 42 = .ok (.ireturn, 1) := by decide +kernel
theorem dX4_readNumber_43 : decode cX4_readNumber 43 = .ok (.aload_n 0, 1) := by decide +kernel
theorem dX4_readNumber_44 : decode cX4_readNumber 44 = .ok (.getfield 28, 3) := by decide +kernel
theorem dX4_readNumber_47 : decode cX4_readNumber 47 = .ok (.istore_n 3, 1) := by decide +kernel
theorem dX4_readNumber_48 : decode cX4_readNumber 48 = .ok (.aload_n 0, 1) := by decide +kernel
theorem dX4_readNumber_49 : decode cX4_readNumber 49 = .ok (.invokevirtual 39, 3) := by decide +kernel
theorem dX4_readNumber_52 : decode cX4_readNumber 52 = .ok (.iload_n 3, 1) := by decide +kernel
theorem dX4_readNumber_53 : decode cX4_readNumber 53 = .ok (.ireturn, 1) := by decide +kernel
theorem dX4_skip_0 : decode cX4_skip 0 = .ok (.aload_n 0, 1) := by decide +kernel
theorem dX4_skip_1 : decode cX4_skip 1 = .ok (.getfield 31, 3) := by decide +kernel
theorem dX4_skip_4 : decode cX4_skip 4 = .ok (.ifCond .eq 4, 3) := by decide +kernel
theorem dX4_skip_7 : decode cX4_skip 7 = .ok (.return_, 1) := by decide +kernel
theorem dX4_skip_8 : decode cX4_skip 8 = .ok (.aload_n 0, 1) := by decide +kernel
theorem dX4_skip_9 : decode cX4_skip 9 = .ok (.getfield 25, 3) := by decide +kernel
theorem dX4_skip_12 : decode cX4_skip 12 = .ok (.iload_n 1, 1) := by decide +kernel
theorem dX4_skip_13 : decode cX4_skip 13 = .ok (.if_icmp .ne 10, 3) := by decide +kernel
theorem dX4_skip_16 : decode cX4_skip 16 = .ok (.aload_n 0, 1) := by decide +kernel
theorem dX4_skip_17 : decode cX4_skip 17 = .ok (.invokevirtual 39, 3) := by decide +kernel
theorem dX4_skip_20 : decode cX4_skip 20 = .ok (.goto 8, 3) := by decide +kernel
theorem dX4_skip_23 : decode cX4_skip 23 = .ok (.aload_n 0, 1) := by decide +kernel
theorem dX4_skip_24 : decode cX4_skip 24 = .ok (.iconst 1, 1) := by decide +kernel
theorem dX4_skip_25 : decode cX4_skip 25 = .ok (.invokevirtual 49, 3) := by decide +kernel
theorem dX4_skip_28 : decode cX4_skip 28 = .ok (.return_, 1) := by decide +kernel
theorem dX4_faultBy_0 : decode cX4_faultBy 0 = .ok (.aload_n 0, 1) := by decide +kernel
theorem dX4_faultBy_1 : decode cX4_faultBy 1 = .ok (.getfield 31, 3) := by decide +kernel
theorem dX4_faultBy_4 : decode cX4_faultBy 4 = .ok (.ifCond .ne 8, 3) := by decide +kernel
theorem dX4_faultBy_7 : decode cX4_faultBy 7 = .ok (.aload_n 0, 1) := by decide +kernel
theorem dX4_faultBy_8 : decode cX4_faultBy 8 = .ok (.iload_n 1, 1) := by decide +kernel
theorem dX4_faultBy_9 : decode cX4_faultBy 9 = .ok (.putfield 31, 3) := by decide +kernel
theorem dX4_faultBy_12 : decode cX4_faultBy 12 = .ok (.return_, 1) := by decide +kernel
theorem dX4_step_0 : decode cX4_step 0 = .ok (.aload_n 0, 1) := by decide +kernel
theorem dX4_step_1 : decode cX4_step 1 = .ok (.aload_n 0, 1) := by decide +kernel
theorem dX4_step_2 : decode cX4_step 2 = .ok (.getfield 22, 3) := by decide +kernel
theorem dX4_step_5 : decode cX4_step 5 = .ok (.putfield 19, 3) := by decide +kernel
theorem dX4_step_8 : decode cX4_step 8 = .ok (.aload_n 0, 1) := by decide +kernel
theorem dX4_step_9 : decode cX4_step 9 = .ok (.getfield 19, 3) := by decide +kernel
theorem dX4_step_12 : decode cX4_step 12 = .ok (.aload_n 0, 1) := by decide +kernel
theorem dX4_step_13 : decode cX4_step 13 = .ok (.getfield 15, 3) := by decide +kernel
theorem dX4_step_16 : decode cX4_step 16 = .ok (.if_icmp .lt 12, 3) := by decide +kernel
theorem dX4_step_19 : decode cX4_step 19 = .ok (.aload_n 0, 1) := by decide +kernel
theorem dX4_step_20 : decode cX4_step 20 = .ok (.bipush (-2), 2) := by decide +kernel
theorem dX4_step_22 : decode cX4_step 22 = .ok (.putfield 25, 3) := by decide +kernel
theorem dX4_step_25 : decode cX4_step 25 = .ok (.goto 87, 3) := by decide +kernel
theorem dX4_step_28 : decode cX4_step 28 = .ok (.aload_n 0, 1) := by decide +kernel
theorem dX4_step_29 : decode cX4_step 29 = .ok (.getfield 9, 3) := by decide +kernel
theorem dX4_step_32 : decode cX4_step 32 = .ok (.aload_n 0, 1) := by decide +kernel
theorem dX4_step_33 : decode cX4_step 33 = .ok (.getfield 19, 3) := by decide +kernel
theorem dX4_step_36 : decode cX4_step 36 = .ok (.iaload, 1) := by decide +kernel
theorem dX4_step_37 : decode cX4_step 37 = .ok (.invokestatic 106, 3) := by decide +kernel
theorem dX4_step_40 : decode cX4_step 40 = .ok (.ifCond .eq 10, 3) := by decide +kernel
theorem dX4_step_43 : decode cX4_step 43 = .ok (.aload_n 0, 1) := by decide +kernel
theorem dX4_step_44 : decode cX4_step 44 = .ok (.invokevirtual 110, 3) := by decide +kernel
theorem dX4_step_47 : decode cX4_step 47 = .ok (.goto 65, 3) := by decide +kernel
theorem dX4_step_50 : decode cX4_step 50 = .ok (.aload_n 0, 1) := by decide +kernel
theorem dX4_step_51 : decode cX4_step 51 = .ok (.aload_n 0, 1) := by decide +kernel
theorem dX4_step_52 : decode cX4_step 52 = .ok (.getfield 9, 3) := by decide +kernel
theorem dX4_step_55 : decode cX4_step 55 = .ok (.aload_n 0, 1) := by decide +kernel
theorem dX4_step_56 : decode cX4_step 56 = .ok (.getfield 19, 3) := by decide +kernel
theorem dX4_step_59 : decode cX4_step 59 = .ok (.iaload, 1) := by decide +kernel
theorem dX4_step_60 : decode cX4_step 60 = .ok (.bipush 97, 2) := by decide +kernel
theorem dX4_step_62 : decode cX4_step 62 = .ok (.bipush 122, 2) := by decide +kernel
theorem dX4_step_64 : decode cX4_step 64 = .ok (.invokestatic 102, 3) := by decide +kernel
theorem dX4_step_67 : decode cX4_step 67 = .ok (.ifCond .ne 18, 3) := by decide +kernel
theorem dX4_step_70 : decode cX4_step 70 = .ok (.aload_n 0, 1) := by decide +kernel
theorem dX4_step_71 : decode cX4_step 71 = .ok (.getfield 9, 3) := by decide +kernel
theorem dX4_step_74 : decode cX4_step 74 = .ok (.aload_n 0, 1) := by decide +kernel
theorem dX4_step_75 : decode cX4_step 75 = .ok (.getfield 19, 3) := by decide +kernel
theorem dX4_step_78 : decode cX4_step 78 = .ok (.iaload, 1) := by decide +kernel
theorem dX4_step_79 : decode cX4_step 79 = .ok (.invokestatic 113, 3) := by decide +kernel
theorem dX4_step_82 : decode cX4_step 82 = .ok (.ifCond .eq 15, 3) := by decide +kernel
theorem dX4_step_85 : decode cX4_step 85 = .ok (.aload_n 0, 1) := by decide +kernel
theorem dX4_step_86 : decode cX4_step 86 = .ok (.getfield 9, 3) := by decide +kernel
theorem dX4_step_89 : decode cX4_step 89 = .ok (.aload_n 0, 1) := by decide +kernel
theorem dX4_step_90 : decode cX4_step 90 = .ok (.getfield 19, 3) := by decide +kernel
theorem dX4_step_93 : decode cX4_step 93 = .ok (.iaload, 1) := by decide +kernel
theorem dX4_step_94 : decode cX4_step 94 = .ok (.goto 5, 3) := by decide +kernel
theorem dX4_step_97 : decode cX4_step 97 = .ok (.bipush (-3), 2) := by decide +kernel
theorem dX4_step_99 : decode cX4_step 99 = .ok (.putfield 25, 3) := by decide +kernel
theorem dX4_step_102 : decode cX4_step 102 = .ok (.aload_n 0, 1) := by decide +kernel
theorem dX4_step_103 : decode cX4_step 103 = .ok (.aload_n 0, 1) := by decide +kernel
theorem dX4_step_104 : decode cX4_step 104 = .ok (.getfield 19, 3) := by decide +kernel
theorem dX4_step_107 : decode cX4_step 107 = .ok (.iconst 1, 1) := by decide +kernel
theorem dX4_step_108 : decode cX4_step 108 = .ok (.iadd, 1) := by decide +kernel
theorem dX4_step_109 : decode cX4_step 109 = .ok (.putfield 22, 3) := by decide +kernel
theorem dX4_step_112 : decode cX4_step 112 = .ok (.return_, 1) := by decide +kernel
theorem dX4_stepOverFigures_0 : decode cX4_stepOverFigures 0 = .ok (.aload_n 0, 1) := by decide +kernel
theorem dX4_stepOverFigures_1 : decode cX4_stepOverFigures 1 = .ok (.iconst 0, 1) := by decide +kernel
theorem dX4_stepOverFigures_2 : decode cX4_stepOverFigures 2 = .ok (.putfield 28, 3) := by decide +kernel
theorem dX4_stepOverFigures_5 : decode cX4_stepOverFigures 5 = .ok (.aload_n 0, 1) := by decide +kernel
theorem dX4_stepOverFigures_6 : decode cX4_stepOverFigures 6 = .ok (.aload_n 0, 1) := by decide +kernel
theorem dX4_stepOverFigures_7 : decode cX4_stepOverFigures 7 = .ok (.getfield 19, 3) := by decide +kernel
theorem dX4_stepOverFigures_10 : decode cX4_stepOverFigures 10 = .ok (.putfield 22, 3) := by decide +kernel
theorem dX4_stepOverFigures_13 : decode cX4_stepOverFigures 13 = .ok (.aload_n 0, 1) := by decide +kernel
theorem dX4_stepOverFigures_14 : decode cX4_stepOverFigures 14 = .ok (.getfield 22, 3) := by decide +kernel
theorem dX4_stepOverFigures_17 : decode cX4_stepOverFigures 17 = .ok (.aload_n 0, 1) := by decide +kernel
theorem dX4_stepOverFigures_18 : decode cX4_stepOverFigures 18 = .ok (.getfield 15, 3) := by decide +kernel
theorem dX4_stepOverFigures_21 : decode cX4_stepOverFigures 21 = .ok (.if_icmp .ge 55, 3) := by decide +kernel
theorem dX4_stepOverFigures_24 : decode cX4_stepOverFigures 24 = .ok (.aload_n 0, 1) := by decide +kernel
theorem dX4_stepOverFigures_25 : decode cX4_stepOverFigures 25 = .ok (.getfield 9, 3) := by decide +kernel
theorem dX4_stepOverFigures_28 : decode cX4_stepOverFigures 28 = .ok (.aload_n 0, 1) := by decide +kernel
theorem dX4_stepOverFigures_29 : decode cX4_stepOverFigures 29 = .ok (.getfield 22, 3) := by decide +kernel
theorem dX4_stepOverFigures_32 : decode cX4_stepOverFigures 32 = .ok (.iaload, 1) := by decide +kernel
theorem dX4_stepOverFigures_33 : decode cX4_stepOverFigures 33 = .ok (.invokestatic 106, 3) := by decide +kernel
theorem dX4_stepOverFigures_36 : decode cX4_stepOverFigures 36 = .ok (.ifCond .eq 40, 3) := by decide +kernel
theorem dX4_stepOverFigures_39 : decode cX4_stepOverFigures 39 = .ok (.aload_n 0, 1) := by decide +kernel
theorem dX4_stepOverFigures_40 : decode cX4_stepOverFigures 40 = .ok (.aload_n 0, 1) := by decide +kernel
theorem dX4_stepOverFigures_41 : decode cX4_stepOverFigures 41 = .ok (.getfield 28, 3) := by decide +kernel
theorem dX4_stepOverFigures_44 : decode cX4_stepOverFigures 44 = .ok (.bipush 10, 2) := by decide +kernel
theorem dX4_stepOverFigures_46 : decode cX4_stepOverFigures 46 = .ok (.imul, 1) := by decide +kernel
theorem dX4_stepOverFigures_47 : decode cX4_stepOverFigures 47 = .ok (.aload_n 0, 1) := by decide +kernel
theorem dX4_stepOverFigures_48 : decode cX4_stepOverFigures 48 = .ok (.getfield 9, 3) := by decide +kernel
theorem dX4_stepOverFigures_51 : decode cX4_stepOverFigures 51 = .ok (.aload_n 0, 1) := by decide +kernel
theorem dX4_stepOverFigures_52 : decode cX4_stepOverFigures 52 = .ok (.getfield 22, 3) := by decide +kernel
theorem dX4_stepOverFigures_55 : decode cX4_stepOverFigures 55 = .ok (.iaload, 1) := by decide +kernel
theorem dX4_stepOverFigures_56 : decode cX4_stepOverFigures 56 = .ok (.iadd, 1) := by decide +kernel
theorem dX4_stepOverFigures_57 : decode cX4_stepOverFigures 57 = .ok (.bipush 48, 2) := by decide +kernel
theorem dX4_stepOverFigures_59 : decode cX4_stepOverFigures 59 = .ok (.isub, 1) := by decide +kernel
theorem dX4_stepOverFigures_60 : decode cX4_stepOverFigures 60 = .ok (.putfield 28, 3) := by decide +kernel
theorem dX4_stepOverFigures_63 : decode cX4_stepOverFigures 63 = .ok (.aload_n 0, 1) := by decide +kernel
theorem dX4_stepOverFigures_64 : decode cX4_stepOverFigures 64 = .ok (.dup, 1) := by decide +kernel
theorem dX4_stepOverFigures_65 : decode cX4_stepOverFigures 65 = .ok (.getfield 22, 3) := by decide +kernel
theorem dX4_stepOverFigures_68 : decode cX4_stepOverFigures 68 = .ok (.iconst 1, 1) := by decide +kernel
theorem dX4_stepOverFigures_69 : decode cX4_stepOverFigures 69 = .ok (.iadd, 1) := by decide +kernel
theorem dX4_stepOverFigures_70 : decode cX4_stepOverFigures 70 = .ok (.putfield 22, 3) := by decide +kernel
theorem dX4_stepOverFigures_73 : decode cX4_stepOverFigures 73 = .ok (.goto (-60), 3) := by decide +kernel
theorem dX4_stepOverFigures_76 : decode cX4_stepOverFigures 76 = .ok (.aload_n 0, 1) := by decide +kernel
theorem dX4_stepOverFigures_77 : decode cX4_stepOverFigures 77 = .ok (.aload_n 0, 1) := by decide +kernel
theorem dX4_stepOverFigures_78 : decode cX4_stepOverFigures 78 = .ok (.getfield 22, 3) := by decide +kernel
theorem dX4_stepOverFigures_81 : decode cX4_stepOverFigures 81 = .ok (.aload_n 0, 1) := by decide +kernel
theorem dX4_stepOverFigures_82 : decode cX4_stepOverFigures 82 = .ok (.getfield 19, 3) := by decide +kernel
theorem dX4_stepOverFigures_85 : decode cX4_stepOverFigures 85 = .ok (.isub, 1) := by decide +kernel
theorem dX4_stepOverFigures_86 : decode cX4_stepOverFigures 86 = .ok (.iconst 2, 1) := by decide +kernel
theorem dX4_stepOverFigures_87 : decode cX4_stepOverFigures 87 = .ok (.if_icmp .le 8, 3) := by decide +kernel
theorem dX4_stepOverFigures_90 : decode cX4_stepOverFigures 90 = .ok (.bipush (-3), 2) := by decide +kernel
theorem dX4_stepOverFigures_92 : decode cX4_stepOverFigures 92 = .ok (.goto 4, 3) := by decide +kernel
theorem dX4_stepOverFigures_95 : decode cX4_stepOverFigures 95 = .ok (.iconst (-1), 1) := by decide +kernel
theorem dX4_stepOverFigures_96 : decode cX4_stepOverFigures 96 = .ok (.putfield 25, 3) := by decide +kernel
theorem dX4_stepOverFigures_99 : decode cX4_stepOverFigures 99 = .ok (.return_, 1) := by decide +kernel
theorem dX4_isFigure_0 : decode cX4_isFigure 0 = .ok (.iload_n 0, 1) := by decide +kernel
theorem dX4_isFigure_1 : decode cX4_isFigure 1 = .ok (.bipush 48, 2) := by decide +kernel
theorem dX4_isFigure_3 : decode cX4_isFigure 3 = .ok (.bipush 57, 2) := by decide +kernel
theorem dX4_isFigure_5 : decode cX4_isFigure 5 = .ok (.invokestatic 102, 3) := by decide +kernel
theorem dX4_isFigure_8 : decode cX4_isFigure 8 = .ok (.ireturn, 1) := by decide +kernel
theorem dX4_isSign_0 : decode cX4_isSign 0 = .ok (.iload_n 0, 1) := by decide +kernel
theorem dX4_isSign_1 : decode cX4_isSign 1 = .ok (.bipush 44, 2) := by decide +kernel
theorem dX4_isSign_3 : decode cX4_isSign 3 = .ok (.if_icmp .eq 9, 3) := by decide +kernel
theorem dX4_isSign_6 : decode cX4_isSign 6 = .ok (.iload_n 0, 1) := by decide +kernel
theorem dX4_isSign_7 : decode cX4_isSign 7 = .ok (.bipush 59, 2) := by decide +kernel
theorem dX4_isSign_9 : decode cX4_isSign 9 = .ok (.if_icmp .ne 7, 3) := by decide +kernel
theorem dX4_isSign_12 : decode cX4_isSign 12 = .ok (.iconst 1, 1) := by decide +kernel
theorem dX4_isSign_13 : decode cX4_isSign 13 = .ok (.goto 4, 3) := by decide +kernel
theorem dX4_isSign_16 : decode cX4_isSign 16 = .ok (.iconst 0, 1) := by decide +kernel
theorem dX4_isSign_17 : decode cX4_isSign 17 = .ok (.ireturn, 1) := by decide +kernel
theorem dX4_sortOf_0 : decode cX4_sortOf 0 = .ok (.iload_n 0, 1) := by decide +kernel
theorem dX4_sortOf_1 : decode cX4_sortOf 1 = .ok (.tableswitch 37 99 102 #[33, 37, 31, 35], 31) := by decide +kernel
theorem dX4_sortOf_32 : decode cX4_sortOf 32 = .ok (.iconst 0, 1) := by decide +kernel
theorem dX4_sortOf_33 : decode cX4_sortOf 33 = .ok (.ireturn, 1) := by decide +kernel
theorem dX4_sortOf_34 : decode cX4_sortOf 34 = .ok (.iconst 1, 1) := by decide +kernel
theorem dX4_sortOf_35 : decode cX4_sortOf 35 = .ok (.ireturn, 1) := by decide +kernel
theorem dX4_sortOf_36 : decode cX4_sortOf 36 = .ok (.iconst 2, 1) := by decide +kernel
theorem dX4_sortOf_37 : decode cX4_sortOf 37 = .ok (.ireturn, 1) := by decide +kernel
theorem dX4_sortOf_38 : decode cX4_sortOf 38 = .ok (.iconst (-1), 1) := by decide +kernel
theorem dX4_sortOf_39 : decode cX4_sortOf 39 = .ok (.ireturn, 1) := by decide +kernel
theorem dX4_kindOf_0 : decode cX4_kindOf 0 = .ok (.iload_n 0, 1) := by decide +kernel
theorem dX4_kindOf_1 : decode cX4_kindOf 1 = .ok (.lookupswitch 61 #[(97, 51), (98, 59), (111, 57), (114, 53), (116, 55)], 51) := by decide +kernel
theorem dX4_kindOf_52 : decode cX4_kindOf 52 = .ok (.iconst 1, 1) := by decide +kernel
theorem dX4_kindOf_53 : decode cX4_kindOf 53 = .ok (.ireturn, 1) := by decide +kernel
theorem dX4_kindOf_54 : decode cX4_kindOf 54 = .ok (.iconst 2, 1) := by decide +kernel
theorem dX4_kindOf_55 : decode cX4_kindOf 55 = .ok (.ireturn, 1) := by decide +kernel
theorem dX4_kindOf_56 : decode cX4_kindOf 56 = .ok (.iconst 3, 1) := by decide +kernel
theorem dX4_kindOf_57 : decode cX4_kindOf 57 = .ok (.ireturn, 1) := by decide +kernel
theorem dX4_kindOf_58 : decode cX4_kindOf 58 = .ok (.iconst 4, 1) := by decide +kernel
theorem dX4_kindOf_59 : decode cX4_kindOf 59 = .ok (.ireturn, 1) := by decide +kernel
theorem dX4_kindOf_60 : decode cX4_kindOf 60 = .ok (.iconst 5, 1) := by decide +kernel
theorem dX4_kindOf_61 : decode cX4_kindOf 61 = .ok (.ireturn, 1) := by decide +kernel
theorem dX4_kindOf_62 : decode cX4_kindOf 62 = .ok (.iconst 0, 1) := by decide +kernel
theorem dX4_kindOf_63 : decode cX4_kindOf 63 = .ok (.ireturn, 1) := by decide +kernel
end
section
theorem dX5_init_0 : decode cX5_init 0 = .ok (.aload_n 0, 1) := by decide +kernel
theorem dX5_init_1 : decode cX5_init 1 = .ok (.invokespecial 3, 3) := by decide +kernel
theorem dX5_init_4 : decode cX5_init 4 = .ok (.aload_n 0, 1) := by decide +kernel
theorem dX5_init_5 : decode cX5_init 5 = .ok (.bipush 6, 2) := by decide +kernel
theorem dX5_init_7 : decode cX5_init 7 = .ok (.newarray .int, 2) := by decide +kernel
theorem dX5_init_9 : decode cX5_init 9 = .ok (.putfield 9, 3) := by decide +kernel
theorem dX5_init_12 : decode cX5_init 12 = .ok (.aload_n 0, 1) := by decide +kernel
theorem dX5_init_13 : decode cX5_init 13 = .ok (.bipush 6, 2) := by decide +kernel
theorem dX5_init_15 : decode cX5_init 15 = .ok (.newarray .int, 2) := by decide +kernel
theorem dX5_init_17 : decode cX5_init 17 = .ok (.putfield 15, 3) := by decide +kernel
theorem dX5_init_20 : decode cX5_init 20 = .ok (.aload_n 0, 1) := by decide +kernel
theorem dX5_init_21 : decode cX5_init 21 = .ok (.bipush 24, 2) := by decide +kernel
theorem dX5_init_23 : decode cX5_init 23 = .ok (.newarray .int, 2) := by decide +kernel
theorem dX5_init_25 : decode cX5_init 25 = .ok (.putfield 18, 3) := by decide +kernel
theorem dX5_init_28 : decode cX5_init 28 = .ok (.aload_n 0, 1) := by decide +kernel
theorem dX5_init_29 : decode cX5_init 29 = .ok (.bipush 24, 2) := by decide +kernel
theorem dX5_init_31 : decode cX5_init 31 = .ok (.newarray .int, 2) := by decide +kernel
theorem dX5_init_33 : decode cX5_init 33 = .ok (.putfield 21, 3) := by decide +kernel
theorem dX5_init_36 : decode cX5_init 36 = .ok (.aload_n 0, 1) := by decide +kernel
theorem dX5_init_37 : decode cX5_init 37 = .ok (.bipush 30, 2) := by decide +kernel
theorem dX5_init_39 : decode cX5_init 39 = .ok (.newarray .int, 2) := by decide +kernel
theorem dX5_init_41 : decode cX5_init 41 = .ok (.putfield 24, 3) := by decide +kernel
theorem dX5_init_44 : decode cX5_init 44 = .ok (.aload_n 0, 1) := by decide +kernel
theorem dX5_init_45 : decode cX5_init 45 = .ok (.iconst 0, 1) := by decide +kernel
theorem dX5_init_46 : decode cX5_init 46 = .ok (.putfield 27, 3) := by decide +kernel
theorem dX5_init_49 : decode cX5_init 49 = .ok (.aload_n 0, 1) := by decide +kernel
theorem dX5_init_50 : decode cX5_init 50 = .ok (.iconst 0, 1) := by decide +kernel
theorem dX5_init_51 : decode cX5_init 51 = .ok (.putfield 31, 3) := by decide +kernel
theorem dX5_init_54 : decode cX5_init 54 = .ok (.return_, 1) := by decide +kernel
theorem dX5_clear_0 : decode cX5_clear 0 = .ok (.aload_n 0, 1) := by decide +kernel
theorem dX5_clear_1 : decode cX5_clear 1 = .ok (.iconst 0, 1) := by decide +kernel
theorem dX5_clear_2 : decode cX5_clear 2 = .ok (.putfield 27, 3) := by decide +kernel
theorem dX5_clear_5 : decode cX5_clear 5 = .ok (.aload_n 0, 1) := by decide +kernel
theorem dX5_clear_6 : decode cX5_clear 6 = .ok (.iconst 0, 1) := by decide +kernel
theorem dX5_clear_7 : decode cX5_clear 7 = .ok (.putfield 31, 3) := by decide +kernel
theorem dX5_clear_10 : decode cX5_clear 10 = .ok (.return_, 1) := by decide +kernel
theorem dX5_take_0 : decode cX5_take 0 = .ok (.aload_n 1, 1) := by decide +kernel
theorem dX5_take_1 : decode cX5_take 1 = .ok (.getfield 9, 3) := by decide +kernel
theorem dX5_take_4 : decode cX5_take 4 = .ok (.iconst 0, 1) := by decide +kernel
theorem dX5_take_5 : decode cX5_take 5 = .ok (.aload_n 0, 1) := by decide +kernel
theorem dX5_take_6 : decode cX5_take 6 = .ok (.getfield 9, 3) := by decide +kernel
theorem dX5_take_9 : decode cX5_take 9 = .ok (.iconst 0, 1) := by decide +kernel
theorem dX5_take_10 : decode cX5_take 10 = .ok (.bipush 6, 2) := by decide +kernel
theorem dX5_take_12 : decode cX5_take 12 = .ok (.invokestatic 34, 3) := by decide +kernel
theorem dX5_take_15 : decode cX5_take 15 = .ok (.aload_n 1, 1) := by decide +kernel
theorem dX5_take_16 : decode cX5_take 16 = .ok (.getfield 15, 3) := by decide +kernel
theorem dX5_take_19 : decode cX5_take 19 = .ok (.iconst 0, 1) := by decide +kernel
theorem dX5_take_20 : decode cX5_take 20 = .ok (.aload_n 0, 1) := by decide +kernel
theorem dX5_take_21 : decode cX5_take 21 = .ok (.getfield 15, 3) := by decide +kernel
theorem dX5_take_24 : decode cX5_take 24 = .ok (.iconst 0, 1) := by decide +kernel
theorem dX5_take_25 : decode cX5_take 25 = .ok (.bipush 6, 2) := by decide +kernel
theorem dX5_take_27 : decode cX5_take 27 = .ok (.invokestatic 34, 3) := by decide +kernel
theorem dX5_take_30 : decode cX5_take 30 = .ok (.aload_n 1, 1) := by decide +kernel
theorem dX5_take_31 : decode cX5_take 31 = .ok (.getfield 18, 3) := by decide +kernel
theorem dX5_take_34 : decode cX5_take 34 = .ok (.iconst 0, 1) := by decide +kernel
theorem dX5_take_35 : decode cX5_take 35 = .ok (.aload_n 0, 1) := by decide +kernel
theorem dX5_take_36 : decode cX5_take 36 = .ok (.getfield 18, 3) := by decide +kernel
theorem dX5_take_39 : decode cX5_take 39 = .ok (.iconst 0, 1) := by decide +kernel
theorem dX5_take_40 : decode cX5_take 40 = .ok (.bipush 24, 2) := by decide +kernel
theorem dX5_take_42 : decode cX5_take 42 = .ok (.invokestatic 34, 3) := by decide +kernel
theorem dX5_take_45 : decode cX5_take 45 = .ok (.aload_n 1, 1) := by decide +kernel
theorem dX5_take_46 : decode cX5_take 46 = .ok (.getfield 21, 3) := by decide +kernel
theorem dX5_take_49 : decode cX5_take 49 = .ok (.iconst 0, 1) := by decide +kernel
theorem dX5_take_50 : decode cX5_take 50 = .ok (.aload_n 0, 1) := by decide +kernel
theorem dX5_take_51 : decode cX5_take 51 = .ok (.getfield 21, 3) := by decide +kernel
theorem dX5_take_54 : decode cX5_take 54 = .ok (.iconst 0, 1) := by decide +kernel
theorem dX5_take_55 : decode cX5_take 55 = .ok (.bipush 24, 2) := by decide +kernel
theorem dX5_take_57 : decode cX5_take 57 = .ok (.invokestatic 34, 3) := by decide +kernel
theorem dX5_take_60 : decode cX5_take 60 = .ok (.aload_n 1, 1) := by decide +kernel
theorem dX5_take_61 : decode cX5_take 61 = .ok (.getfield 24, 3) := by decide +kernel
theorem dX5_take_64 : decode cX5_take 64 = .ok (.iconst 0, 1) := by decide +kernel
theorem dX5_take_65 : decode cX5_take 65 = .ok (.aload_n 0, 1) := by decide +kernel
theorem dX5_take_66 : decode cX5_take 66 = .ok (.getfield 24, 3) := by decide +kernel
theorem dX5_take_69 : decode cX5_take 69 = .ok (.iconst 0, 1) := by decide +kernel
theorem dX5_take_70 : decode cX5_take 70 = .ok (.bipush 30, 2) := by decide +kernel
theorem dX5_take_72 : decode cX5_take 72 = .ok (.invokestatic 34, 3) := by decide +kernel
theorem dX5_take_75 : decode cX5_take 75 = .ok (.aload_n 0, 1) := by decide +kernel
theorem dX5_take_76 : decode cX5_take 76 = .ok (.aload_n 1, 1) := by decide +kernel
theorem dX5_take_77 : decode cX5_take 77 = .ok (.getfield 27, 3) := by decide +kernel
theorem dX5_take_80 : decode cX5_take 80 = .ok (.putfield 27, 3) := by decide +kernel
theorem dX5_take_83 : decode cX5_take 83 = .ok (.aload_n 0, 1) := by decide +kernel
theorem dX5_take_84 : decode cX5_take 84 = .ok (.aload_n 1, 1) := by decide +kernel
theorem dX5_take_85 : decode cX5_take 85 = .ok (.getfield 31, 3) := by decide +kernel
theorem dX5_take_88 : decode cX5_take 88 = .ok (.putfield 31, 3) := by decide +kernel
theorem dX5_take_91 : decode cX5_take 91 = .ok (.return_, 1) := by decide +kernel
theorem dX5_methods_0 : decode cX5_methods 0 = .ok (.aload_n 0, 1) := by decide +kernel
theorem dX5_methods_1 : decode cX5_methods 1 = .ok (.getfield 27, 3) := by decide +kernel
theorem dX5_methods_4 : decode cX5_methods 4 = .ok (.ireturn, 1) := by decide +kernel
theorem dX5_adviceCount_0 : decode cX5_adviceCount 0 = .ok (.aload_n 0, 1) := by decide +kernel
theorem dX5_adviceCount_1 : decode cX5_adviceCount 1 = .ok (.getfield 31, 3) := by decide +kernel
theorem dX5_adviceCount_4 : decode cX5_adviceCount 4 = .ok (.ireturn, 1) := by decide +kernel
theorem dX5_statements_0 : decode cX5_statements 0 = .ok (.iconst 0, 1) := by decide +kernel
theorem dX5_statements_1 : decode cX5_statements 1 = .ok (.istore_n 1, 1) := by decide +kernel
theorem dX5_statements_2 : decode cX5_statements 2 = .ok (.iconst 0, 1) := by decide +kernel
theorem dX5_statements_3 : decode cX5_statements 3 = .ok (.istore_n 2, 1) := by decide +kernel
theorem dX5_statements_4 : decode cX5_statements 4 = .ok (.iload_n 2, 1) := by decide +kernel
theorem dX5_statements_5 : decode cX5_statements 5 = .ok (.aload_n 0, 1) := by decide +kernel
theorem dX5_statements_6 : decode cX5_statements 6 = .ok (.getfield 27, 3) := by decide +kernel
theorem dX5_statements_9 : decode cX5_statements 9 = .ok (.if_icmp .ge 18, 3) := by decide +kernel
theorem dX5_statements_12 : decode cX5_statements 12 = .ok (.iload_n 1, 1) := by decide +kernel
theorem dX5_statements_13 : decode cX5_statements 13 = .ok (.aload_n 0, 1) := by decide +kernel
theorem dX5_statements_14 : decode cX5_statements 14 = .ok (.getfield 15, 3) := by decide +kernel
theorem dX5_statements_17 : decode cX5_statements 17 = .ok (.iload_n 2, 1) := by decide +kernel
theorem dX5_statements_18 : decode cX5_statements 18 = .ok (.iaload, 1) := by decide +kernel
theorem dX5_statements_19 : decode cX5_statements 19 = .ok (.iadd, 1) := by decide +kernel
theorem dX5_statements_20 : decode cX5_statements 20 = .ok (.istore_n 1, 1) := by decide +kernel
theorem dX5_statements_21 : decode cX5_statements 21 = .ok (.iinc 2 1, 3) := by decide +kernel
theorem dX5_statements_24 : decode cX5_statements 24 = .ok (.goto (-20), 3) := by decide +kernel
theorem dX5_statements_27 : decode cX5_statements 27 = .ok (.iload_n 1, 1) := by decide +kernel
theorem dX5_statements_28 : decode cX5_statements 28 = .ok (.ireturn, 1) := by decide +kernel
theorem dX5_classOf_0 : decode cX5_classOf 0 = .ok (.aload_n 0, 1) := by decide +kernel
theorem dX5_classOf_1 : decode cX5_classOf 1 = .ok (.getfield 9, 3) := by decide +kernel
theorem dX5_classOf_4 : decode cX5_classOf 4 = .ok (.iload_n 1, 1) := by decide +kernel
theorem dX5_classOf_5 : decode cX5_classOf 5 = .ok (.iaload, 1) := by decide +kernel
theorem dX5_classOf_6 : decode cX5_classOf 6 = .ok (.ireturn, 1) := by decide +kernel
theorem dX5_putClass_0 : decode cX5_putClass 0 = .ok (.aload_n 0, 1) := by decide +kernel
theorem dX5_putClass_1 : decode cX5_putClass 1 = .ok (.getfield 9, 3) := by decide +kernel
theorem dX5_putClass_4 : decode cX5_putClass 4 = .ok (.iload_n 1, 1) := by decide +kernel
theorem dX5_putClass_5 : decode cX5_putClass 5 = .ok (.iload_n 2, 1) := by decide +kernel
theorem dX5_putClass_6 : decode cX5_putClass 6 = .ok (.iastore, 1) := by decide +kernel
theorem dX5_putClass_7 : decode cX5_putClass 7 = .ok (.return_, 1) := by decide +kernel
theorem dX5_length_0 : decode cX5_length 0 = .ok (.aload_n 0, 1) := by decide +kernel
theorem dX5_length_1 : decode cX5_length 1 = .ok (.getfield 15, 3) := by decide +kernel
theorem dX5_length_4 : decode cX5_length 4 = .ok (.iload_n 1, 1) := by decide +kernel
theorem dX5_length_5 : decode cX5_length 5 = .ok (.iaload, 1) := by decide +kernel
theorem dX5_length_6 : decode cX5_length 6 = .ok (.ireturn, 1) := by decide +kernel
theorem dX5_sort_0 : decode cX5_sort 0 = .ok (.aload_n 0, 1) := by decide +kernel
theorem dX5_sort_1 : decode cX5_sort 1 = .ok (.getfield 18, 3) := by decide +kernel
theorem dX5_sort_4 : decode cX5_sort 4 = .ok (.iload_n 1, 1) := by decide +kernel
theorem dX5_sort_5 : decode cX5_sort 5 = .ok (.iconst 4, 1) := by decide +kernel
theorem dX5_sort_6 : decode cX5_sort 6 = .ok (.imul, 1) := by decide +kernel
theorem dX5_sort_7 : decode cX5_sort 7 = .ok (.iload_n 2, 1) := by decide +kernel
theorem dX5_sort_8 : decode cX5_sort 8 = .ok (.iadd, 1) := by decide +kernel
theorem dX5_sort_9 : decode cX5_sort 9 = .ok (.iaload, 1) := by decide +kernel
theorem dX5_sort_10 : decode cX5_sort 10 = .ok (.ireturn, 1) := by decide +kernel
theorem dX5_operand_0 : decode cX5_operand 0 = .ok (.aload_n 0, 1) := by decide +kernel
theorem dX5_operand_1 : decode cX5_operand 1 = .ok (.getfield 21, 3) := by decide +kernel
theorem dX5_operand_4 : decode cX5_operand 4 = .ok (.iload_n 1, 1) := by decide +kernel
theorem dX5_operand_5 : decode cX5_operand 5 = .ok (.iconst 4, 1) := by decide +kernel
theorem dX5_operand_6 : decode cX5_operand 6 = .ok (.imul, 1) := by decide +kernel
theorem dX5_operand_7 : decode cX5_operand 7 = .ok (.iload_n 2, 1) := by decide +kernel
theorem dX5_operand_8 : decode cX5_operand 8 = .ok (.iadd, 1) := by decide +kernel
theorem dX5_operand_9 : decode cX5_operand 9 = .ok (.iaload, 1) := by decide +kernel
theorem dX5_operand_10 : decode cX5_operand 10 = .ok (.ireturn, 1) := by decide +kernel
theorem dX5_putStatement_0 : decode cX5_putStatement 0 = .ok (.aload_n 0, 1) := by decide +kernel
theorem dX5_putStatement_1 : decode cX5_putStatement 1 = .ok (.getfield 18, 3) := by decide +kernel
theorem dX5_putStatement_4 : decode cX5_putStatement 4 = .ok (.iload_n 1, 1) := by decide +kernel
theorem dX5_putStatement_5 : decode cX5_putStatement 5 = .ok (.iconst 4, 1) := by decide +kernel
theorem dX5_putStatement_6 : decode cX5_putStatement 6 = .ok (.imul, 1) := by decide +kernel
theorem dX5_putStatement_7 : decode cX5_putStatement 7 = .ok (.iload_n 2, 1) := by decide +kernel
theorem dX5_putStatement_8 : decode cX5_putStatement 8 = .ok (.iadd, 1) := by decide +kernel
theorem dX5_putStatement_9 : decode cX5_putStatement 9 = .ok (.iload_n 3, 1) := by decide +kernel
theorem dX5_putStatement_10 : decode cX5_putStatement 10 = .ok (.iastore, 1) := by decide +kernel
theorem dX5_putStatement_11 : decode cX5_putStatement 11 = .ok (.aload_n 0, 1) := by decide +kernel
theorem dX5_putStatement_12 : decode cX5_putStatement 12 = .ok (.getfield 21, 3) := by decide +kernel
theorem dX5_putStatement_15 : decode cX5_putStatement 15 = .ok (.iload_n 1, 1) := by decide +kernel
theorem dX5_putStatement_16 : decode cX5_putStatement 16 = .ok (.iconst 4, 1) := by decide +kernel
theorem dX5_putStatement_17 : decode cX5_putStatement 17 = .ok (.imul, 1) := by decide +kernel
theorem dX5_putStatement_18 : decode cX5_putStatement 18 = .ok (.iload_n 2, 1) := by decide +kernel
theorem dX5_putStatement_19 : decode cX5_putStatement 19 = .ok (.iadd, 1) := by decide +kernel
theorem dX5_putStatement_20 : decode cX5_putStatement 20 = .ok (.iload 4, 2) := by decide +kernel
theorem dX5_putStatement_22 : decode cX5_putStatement 22 = .ok (.iastore, 1) := by decide +kernel
theorem dX5_putStatement_23 : decode cX5_putStatement 23 = .ok (.return_, 1) := by decide +kernel
theorem dX5_fact_0 : decode cX5_fact 0 = .ok (.aload_n 0, 1) := by decide +kernel
theorem dX5_fact_1 : decode cX5_fact 1 = .ok (.getfield 24, 3) := by decide +kernel
theorem dX5_fact_4 : decode cX5_fact 4 = .ok (.iload_n 1, 1) := by decide +kernel
theorem dX5_fact_5 : decode cX5_fact 5 = .ok (.bipush 6, 2) := by decide +kernel
theorem dX5_fact_7 : decode cX5_fact 7 = .ok (.imul, 1) := by decide +kernel
theorem dX5_fact_8 : decode cX5_fact 8 = .ok (.iload_n 2, 1) := by decide +kernel
theorem dX5_fact_9 : decode cX5_fact 9 = .ok (.iadd, 1) := by decide +kernel
theorem dX5_fact_10 : decode cX5_fact 10 = .ok (.iaload, 1) := by decide +kernel
theorem dX5_fact_11 : decode cX5_fact 11 = .ok (.ireturn, 1) := by decide +kernel
theorem dX5_putFact_0 : decode cX5_putFact 0 = .ok (.aload_n 0, 1) := by decide +kernel
theorem dX5_putFact_1 : decode cX5_putFact 1 = .ok (.getfield 24, 3) := by decide +kernel
theorem dX5_putFact_4 : decode cX5_putFact 4 = .ok (.iload_n 1, 1) := by decide +kernel
theorem dX5_putFact_5 : decode cX5_putFact 5 = .ok (.bipush 6, 2) := by decide +kernel
theorem dX5_putFact_7 : decode cX5_putFact 7 = .ok (.imul, 1) := by decide +kernel
theorem dX5_putFact_8 : decode cX5_putFact 8 = .ok (.iload_n 2, 1) := by decide +kernel
theorem dX5_putFact_9 : decode cX5_putFact 9 = .ok (.iadd, 1) := by decide +kernel
theorem dX5_putFact_10 : decode cX5_putFact 10 = .ok (.iload_n 3, 1) := by decide +kernel
theorem dX5_putFact_11 : decode cX5_putFact 11 = .ok (.iastore, 1) := by decide +kernel
theorem dX5_putFact_12 : decode cX5_putFact 12 = .ok (.return_, 1) := by decide +kernel
theorem dX5_exchange_0 : decode cX5_exchange 0 = .ok (.iconst 0, 1) := by decide +kernel
theorem dX5_exchange_1 : decode cX5_exchange 1 = .ok (.istore_n 3, 1) := by decide +kernel
theorem dX5_exchange_2 : decode cX5_exchange 2 = .ok (.iload_n 3, 1) := by decide +kernel
theorem dX5_exchange_3 : decode cX5_exchange 3 = .ok (.bipush 6, 2) := by decide +kernel
theorem dX5_exchange_5 : decode cX5_exchange 5 = .ok (.if_icmp .ge 37, 3) := by decide +kernel
theorem dX5_exchange_8 : decode cX5_exchange 8 = .ok (.aload_n 0, 1) := by decide +kernel
theorem dX5_exchange_9 : decode cX5_exchange 9 = .ok (.iload_n 1, 1) := by decide +kernel
theorem dX5_exchange_10 : decode cX5_exchange 10 = .ok (.iload_n 3, 1) := by decide +kernel
theorem dX5_exchange_11 : decode cX5_exchange 11 = .ok (.invokevirtual 40, 3) := by decide +kernel
theorem dX5_exchange_14 : decode cX5_exchange 14 = .ok (.istore 4, 2) := by decide +kernel
theorem dX5_exchange_16 : decode cX5_exchange 16 = .ok (.aload_n 0, 1) := by decide +kernel
theorem dX5_exchange_17 : decode cX5_exchange 17 = .ok (.iload_n 1, 1) := by decide +kernel
theorem dX5_exchange_18 : decode cX5_exchange 18 = .ok (.iload_n 3, 1) := by decide +kernel
theorem dX5_exchange_19 : decode cX5_exchange 19 = .ok (.aload_n 0, 1) := by decide +kernel
theorem dX5_exchange_20 : decode cX5_exchange 20 = .ok (.iload_n 2, 1) := by decide +kernel
theorem dX5_exchange_21 : decode cX5_exchange 21 = .ok (.iload_n 3, 1) := by decide +kernel
theorem dX5_exchange_22 : decode cX5_exchange 22 = .ok (.invokevirtual 40, 3) := by decide +kernel
theorem dX5_exchange_25 : decode cX5_exchange 25 = .ok (.invokevirtual 44, 3) := by decide +kernel
theorem dX5_exchange_28 : decode cX5_exchange 28 = .ok (.aload_n 0, 1) := by decide +kernel
theorem dX5_exchange_29 : decode cX5_exchange 29 = .ok (.iload_n 2, 1) := by decide +kernel
theorem dX5_exchange_30 : decode cX5_exchange 30 = .ok (.iload_n 3, 1) := by decide +kernel
theorem dX5_exchange_31 : decode cX5_exchange 31 = .ok (.iload 4, 2) := by decide +kernel
theorem dX5_exchange_33 : decode cX5_exchange 33 = .ok (.invokevirtual 44, 3) := by decide +kernel
theorem dX5_exchange_36 : decode cX5_exchange 36 = .ok (.iinc 3 1, 3) := by decide +kernel
theorem dX5_exchange_39 : decode cX5_exchange 39 = .ok (.goto (-37), 3) := by decide +kernel
theorem dX5_exchange_42 : decode cX5_exchange 42 = .ok (.return_, 1) := by decide +kernel
theorem dX5_addMethod_0 : decode cX5_addMethod 0 = .ok (.aload_n 0, 1) := by decide +kernel
theorem dX5_addMethod_1 : decode cX5_addMethod 1 = .ok (.getfield 27, 3) := by decide +kernel
theorem dX5_addMethod_4 : decode cX5_addMethod 4 = .ok (.bipush 6, 2) := by decide +kernel
theorem dX5_addMethod_6 : decode cX5_addMethod 6 = .ok (.if_icmp .ge 33, 3) := by decide +kernel
theorem dX5_addMethod_9 : decode cX5_addMethod 9 = .ok (.aload_n 0, 1) := by decide +kernel
theorem dX5_addMethod_10 : decode cX5_addMethod 10 = .ok (.getfield 9, 3) := by decide +kernel
theorem dX5_addMethod_13 : decode cX5_addMethod 13 = .ok (.aload_n 0, 1) := by decide +kernel
theorem dX5_addMethod_14 : decode cX5_addMethod 14 = .ok (.getfield 27, 3) := by decide +kernel
theorem dX5_addMethod_17 : decode cX5_addMethod 17 = .ok (.iload_n 1, 1) := by decide +kernel
theorem dX5_addMethod_18 : decode cX5_addMethod 18 = .ok (.iastore, 1) := by decide +kernel
theorem dX5_addMethod_19 : decode cX5_addMethod 19 = .ok (.aload_n 0, 1) := by decide +kernel
theorem dX5_addMethod_20 : decode cX5_addMethod 20 = .ok (.getfield 15, 3) := by decide +kernel
theorem dX5_addMethod_23 : decode cX5_addMethod 23 = .ok (.aload_n 0, 1) := by decide +kernel
theorem dX5_addMethod_24 : decode cX5_addMethod 24 = .ok (.getfield 27, 3) := by decide +kernel
theorem dX5_addMethod_27 : decode cX5_addMethod 27 = .ok (.iconst 0, 1) := by decide +kernel
theorem dX5_addMethod_28 : decode cX5_addMethod 28 = .ok (.iastore, 1) := by decide +kernel
theorem dX5_addMethod_29 : decode cX5_addMethod 29 = .ok (.aload_n 0, 1) := by decide +kernel
theorem dX5_addMethod_30 : decode cX5_addMethod 30 = .ok (.dup, 1) := by decide +kernel
theorem dX5_addMethod_31 : decode cX5_addMethod 31 = .ok (.getfield 27, 3) := by decide +kernel
theorem dX5_addMethod_34 : decode cX5_addMethod 34 = .ok (.iconst 1, 1) := by decide +kernel
theorem dX5_addMethod_35 : decode cX5_addMethod 35 = .ok (.iadd, 1) := by decide +kernel
theorem dX5_addMethod_36 : decode cX5_addMethod 36 = .ok (.putfield 27, 3) := by decide +kernel
theorem dX5_addMethod_39 : decode cX5_addMethod 39 = .ok (.return_, 1) := by decide +kernel
theorem dX5_addStatement_0 : decode cX5_addStatement 0 = .ok (.aload_n 0, 1) := by decide +kernel
theorem dX5_addStatement_1 : decode cX5_addStatement 1 = .ok (.getfield 27, 3) := by decide +kernel
theorem dX5_addStatement_4 : decode cX5_addStatement 4 = .ok (.iconst 1, 1) := by decide +kernel
theorem dX5_addStatement_5 : decode cX5_addStatement 5 = .ok (.isub, 1) := by decide +kernel
theorem dX5_addStatement_6 : decode cX5_addStatement 6 = .ok (.istore_n 3, 1) := by decide +kernel
theorem dX5_addStatement_7 : decode cX5_addStatement 7 = .ok (.iload_n 3, 1) := by decide +kernel
theorem dX5_addStatement_8 : decode cX5_addStatement 8 = .ok (.ifCond .lt 36, 3) := by decide +kernel
theorem dX5_addStatement_11 : decode cX5_addStatement 11 = .ok (.aload_n 0, 1) := by decide +kernel
theorem dX5_addStatement_12 : decode cX5_addStatement 12 = .ok (.getfield 15, 3) := by decide +kernel
theorem dX5_addStatement_15 : decode cX5_addStatement 15 = .ok (.iload_n 3, 1) := by decide +kernel
theorem dX5_addStatement_16 : decode cX5_addStatement 16 = .ok (.iaload, 1) := by decide +kernel
theorem dX5_addStatement_17 : decode cX5_addStatement 17 = .ok (.iconst 4, 1) := by decide +kernel
theorem dX5_addStatement_18 : decode cX5_addStatement 18 = .ok (.if_icmp .ge 26, 3) := by decide +kernel
theorem dX5_addStatement_21 : decode cX5_addStatement 21 = .ok (.aload_n 0, 1) := by decide +kernel
theorem dX5_addStatement_22 : decode cX5_addStatement 22 = .ok (.iload_n 3, 1) := by decide +kernel
theorem dX5_addStatement_23 : decode cX5_addStatement 23 = .ok (.aload_n 0, 1) := by decide +kernel
theorem dX5_addStatement_24 : decode cX5_addStatement 24 = .ok (.getfield 15, 3) := by decide +kernel
theorem dX5_addStatement_27 : decode cX5_addStatement 27 = .ok (.iload_n 3, 1) := by decide +kernel
theorem dX5_addStatement_28 : decode cX5_addStatement 28 = .ok (.iaload, 1) := by decide +kernel
theorem dX5_addStatement_29 : decode cX5_addStatement 29 = .ok (.iload_n 1, 1) := by decide +kernel
theorem dX5_addStatement_30 : decode cX5_addStatement 30 = .ok (.iload_n 2, 1) := by decide +kernel
theorem dX5_addStatement_31 : decode cX5_addStatement 31 = .ok (.invokevirtual 48, 3) := by decide +kernel
theorem dX5_addStatement_34 : decode cX5_addStatement 34 = .ok (.aload_n 0, 1) := by decide +kernel
theorem dX5_addStatement_35 : decode cX5_addStatement 35 = .ok (.getfield 15, 3) := by decide +kernel
theorem dX5_addStatement_38 : decode cX5_addStatement 38 = .ok (.iload_n 3, 1) := by decide +kernel
theorem dX5_addStatement_39 : decode cX5_addStatement 39 = .ok (.dup2, 1) := by decide +kernel
theorem dX5_addStatement_40 : decode cX5_addStatement 40 = .ok (.iaload, 1) := by decide +kernel
theorem dX5_addStatement_41 : decode cX5_addStatement 41 = .ok (.iconst 1, 1) := by decide +kernel
theorem dX5_addStatement_42 : decode cX5_addStatement 42 = .ok (.iadd, 1) := by decide +kernel
theorem dX5_addStatement_43 : decode cX5_addStatement 43 = .ok (.iastore, 1) := by decide +kernel
theorem dX5_addStatement_44 : decode cX5_addStatement 44 = .ok (.return_, 1) := by decide +kernel
theorem dX5_addAdvice_0 : decode cX5_addAdvice 0 = .ok (.aload_n 0, 1) := by decide +kernel
theorem dX5_addAdvice_1 : decode cX5_addAdvice 1 = .ok (.getfield 31, 3) := by decide +kernel
theorem dX5_addAdvice_4 : decode cX5_addAdvice 4 = .ok (.iconst 4, 1) := by decide +kernel
theorem dX5_addAdvice_5 : decode cX5_addAdvice 5 = .ok (.invokestatic 52, 3) := by decide +kernel
theorem dX5_addAdvice_8 : decode cX5_addAdvice 8 = .ok (.istore_n 2, 1) := by decide +kernel
theorem dX5_addAdvice_9 : decode cX5_addAdvice 9 = .ok (.aload_n 0, 1) := by decide +kernel
theorem dX5_addAdvice_10 : decode cX5_addAdvice 10 = .ok (.iload_n 2, 1) := by decide +kernel
theorem dX5_addAdvice_11 : decode cX5_addAdvice 11 = .ok (.iconst 5, 1) := by decide +kernel
theorem dX5_addAdvice_12 : decode cX5_addAdvice 12 = .ok (.iload_n 1, 1) := by decide +kernel
theorem dX5_addAdvice_13 : decode cX5_addAdvice 13 = .ok (.invokevirtual 44, 3) := by decide +kernel
theorem dX5_addAdvice_16 : decode cX5_addAdvice 16 = .ok (.aload_n 0, 1) := by decide +kernel
theorem dX5_addAdvice_17 : decode cX5_addAdvice 17 = .ok (.iload_n 2, 1) := by decide +kernel
theorem dX5_addAdvice_18 : decode cX5_addAdvice 18 = .ok (.iconst 1, 1) := by decide +kernel
theorem dX5_addAdvice_19 : decode cX5_addAdvice 19 = .ok (.iadd, 1) := by decide +kernel
theorem dX5_addAdvice_20 : decode cX5_addAdvice 20 = .ok (.putfield 31, 3) := by decide +kernel
theorem dX5_addAdvice_23 : decode cX5_addAdvice 23 = .ok (.iload_n 2, 1) := by decide +kernel
theorem dX5_addAdvice_24 : decode cX5_addAdvice 24 = .ok (.ireturn, 1) := by decide +kernel
theorem dX5_callsOnlyWhatIsThere_0 : decode cX5_callsOnlyWhatIsThere 0 = .ok (.iconst 0, 1) := by decide +kernel
theorem dX5_callsOnlyWhatIsThere_1 : decode cX5_callsOnlyWhatIsThere 1 = .ok (.istore_n 1, 1) := by decide +kernel
theorem dX5_callsOnlyWhatIsThere_2 : decode cX5_callsOnlyWhatIsThere 2 = .ok (.iload_n 1, 1) := by decide +kernel
theorem dX5_callsOnlyWhatIsThere_3 : decode cX5_callsOnlyWhatIsThere 3 = .ok (.aload_n 0, 1) := by decide +kernel
theorem dX5_callsOnlyWhatIsThere_4 : decode cX5_callsOnlyWhatIsThere 4 = .ok (.getfield 27, 3) := by decide +kernel
theorem dX5_callsOnlyWhatIsThere_7 : decode cX5_callsOnlyWhatIsThere 7 = .ok (.if_icmp .ge 24, 3) := by decide +kernel
theorem dX5_callsOnlyWhatIsThere_10 : decode cX5_callsOnlyWhatIsThere 10 = .ok (.aload_n 0, 1) := by decide +kernel
theorem dX5_callsOnlyWhatIsThere_11 : decode cX5_callsOnlyWhatIsThere 11 = .ok (.iload_n 1, 1) := by decide +kernel
theorem dX5_callsOnlyWhatIsThere_12 : decode cX5_callsOnlyWhatIsThere 12 = .ok (.invokevirtual 57, 3) := by decide +kernel
theorem dX5_callsOnlyWhatIsThere_15 : decode cX5_callsOnlyWhatIsThere 15 = .ok (.aload_n 0, 1) := by decide +kernel
theorem dX5_callsOnlyWhatIsThere_16 : decode cX5_callsOnlyWhatIsThere 16 = .ok (.getfield 27, 3) := by decide +kernel
theorem dX5_callsOnlyWhatIsThere_19 : decode cX5_callsOnlyWhatIsThere 19 = .ok (.ishr, 1) := by decide +kernel
theorem dX5_callsOnlyWhatIsThere_20 : decode cX5_callsOnlyWhatIsThere 20 = .ok (.ifCond .eq 5, 3) := by decide +kernel
theorem dX5_callsOnlyWhatIsThere_23 : decode cX5_callsOnlyWhatIsThere 23 = .ok (.iconst 0, 1) := by decide +kernel
theorem dX5_callsOnlyWhatIsThere_24 : decode cX5_callsOnlyWhatIsThere 24 = .ok (.ireturn, 1) := by decide +kernel
theorem dX5_callsOnlyWhatIsThere_25 : decode cX5_callsOnlyWhatIsThere 25 = .ok (.iinc 1 1, 3) := by decide +kernel
theorem dX5_callsOnlyWhatIsThere_28 : decode cX5_callsOnlyWhatIsThere 28 = .ok (.goto (-26), 3) := by decide +kernel
theorem dX5_callsOnlyWhatIsThere_31 : decode cX5_callsOnlyWhatIsThere 31 = .ok (.iconst 1, 1) := by decide +kernel
theorem dX5_callsOnlyWhatIsThere_32 : decode cX5_callsOnlyWhatIsThere 32 = .ok (.ireturn, 1) := by decide +kernel
theorem dX5_calledBy_0 : decode cX5_calledBy 0 = .ok (.iconst 0, 1) := by decide +kernel
theorem dX5_calledBy_1 : decode cX5_calledBy 1 = .ok (.istore_n 2, 1) := by decide +kernel
theorem dX5_calledBy_2 : decode cX5_calledBy 2 = .ok (.iconst 0, 1) := by decide +kernel
theorem dX5_calledBy_3 : decode cX5_calledBy 3 = .ok (.istore_n 3, 1) := by decide +kernel
theorem dX5_calledBy_4 : decode cX5_calledBy 4 = .ok (.iload_n 3, 1) := by decide +kernel
theorem dX5_calledBy_5 : decode cX5_calledBy 5 = .ok (.aload_n 0, 1) := by decide +kernel
theorem dX5_calledBy_6 : decode cX5_calledBy 6 = .ok (.getfield 15, 3) := by decide +kernel
theorem dX5_calledBy_9 : decode cX5_calledBy 9 = .ok (.iload_n 1, 1) := by decide +kernel
theorem dX5_calledBy_10 : decode cX5_calledBy 10 = .ok (.iaload, 1) := by decide +kernel
theorem dX5_calledBy_11 : decode cX5_calledBy 11 = .ok (.if_icmp .ge 30, 3) := by decide +kernel
theorem dX5_calledBy_14 : decode cX5_calledBy 14 = .ok (.aload_n 0, 1) := by decide +kernel
theorem dX5_calledBy_15 : decode cX5_calledBy 15 = .ok (.iload_n 1, 1) := by decide +kernel
theorem dX5_calledBy_16 : decode cX5_calledBy 16 = .ok (.iload_n 3, 1) := by decide +kernel
theorem dX5_calledBy_17 : decode cX5_calledBy 17 = .ok (.invokevirtual 61, 3) := by decide +kernel
theorem dX5_calledBy_20 : decode cX5_calledBy 20 = .ok (.iconst 1, 1) := by decide +kernel
theorem dX5_calledBy_21 : decode cX5_calledBy 21 = .ok (.if_icmp .ne 14, 3) := by decide +kernel
theorem dX5_calledBy_24 : decode cX5_calledBy 24 = .ok (.iload_n 2, 1) := by decide +kernel
theorem dX5_calledBy_25 : decode cX5_calledBy 25 = .ok (.iconst 1, 1) := by decide +kernel
theorem dX5_calledBy_26 : decode cX5_calledBy 26 = .ok (.aload_n 0, 1) := by decide +kernel
theorem dX5_calledBy_27 : decode cX5_calledBy 27 = .ok (.iload_n 1, 1) := by decide +kernel
theorem dX5_calledBy_28 : decode cX5_calledBy 28 = .ok (.iload_n 3, 1) := by decide +kernel
theorem dX5_calledBy_29 : decode cX5_calledBy 29 = .ok (.invokevirtual 64, 3) := by decide +kernel
theorem dX5_calledBy_32 : decode cX5_calledBy 32 = .ok (.ishl, 1) := by decide +kernel
theorem dX5_calledBy_33 : decode cX5_calledBy 33 = .ok (.ior, 1) := by decide +kernel
theorem dX5_calledBy_34 : decode cX5_calledBy 34 = .ok (.istore_n 2, 1) := by decide +kernel
theorem dX5_calledBy_35 : decode cX5_calledBy 35 = .ok (.iinc 3 1, 3) := by decide +kernel
theorem dX5_calledBy_38 : decode cX5_calledBy 38 = .ok (.goto (-34), 3) := by decide +kernel
theorem dX5_calledBy_41 : decode cX5_calledBy 41 = .ok (.iload_n 2, 1) := by decide +kernel
theorem dX5_calledBy_42 : decode cX5_calledBy 42 = .ok (.ireturn, 1) := by decide +kernel
theorem dX5_reachedFrom_0 : decode cX5_reachedFrom 0 = .ok (.aload_n 0, 1) := by decide +kernel
theorem dX5_reachedFrom_1 : decode cX5_reachedFrom 1 = .ok (.iload_n 1, 1) := by decide +kernel
theorem dX5_reachedFrom_2 : decode cX5_reachedFrom 2 = .ok (.invokevirtual 57, 3) := by decide +kernel
theorem dX5_reachedFrom_5 : decode cX5_reachedFrom 5 = .ok (.istore_n 2, 1) := by decide +kernel
theorem dX5_reachedFrom_6 : decode cX5_reachedFrom 6 = .ok (.iconst 1, 1) := by decide +kernel
theorem dX5_reachedFrom_7 : decode cX5_reachedFrom 7 = .ok (.istore_n 3, 1) := by decide +kernel
theorem dX5_reachedFrom_8 : decode cX5_reachedFrom 8 = .ok (.iload_n 3, 1) := by decide +kernel
theorem dX5_reachedFrom_9 : decode cX5_reachedFrom 9 = .ok (.aload_n 0, 1) := by decide +kernel
theorem dX5_reachedFrom_10 : decode cX5_reachedFrom 10 = .ok (.getfield 27, 3) := by decide +kernel
theorem dX5_reachedFrom_13 : decode cX5_reachedFrom 13 = .ok (.if_icmp .ge 17, 3) := by decide +kernel
theorem dX5_reachedFrom_16 : decode cX5_reachedFrom 16 = .ok (.iload_n 2, 1) := by decide +kernel
theorem dX5_reachedFrom_17 : decode cX5_reachedFrom 17 = .ok (.aload_n 0, 1) := by decide +kernel
theorem dX5_reachedFrom_18 : decode cX5_reachedFrom 18 = .ok (.iload_n 2, 1) := by decide +kernel
theorem dX5_reachedFrom_19 : decode cX5_reachedFrom 19 = .ok (.invokevirtual 67, 3) := by decide +kernel
theorem dX5_reachedFrom_22 : decode cX5_reachedFrom 22 = .ok (.ior, 1) := by decide +kernel
theorem dX5_reachedFrom_23 : decode cX5_reachedFrom 23 = .ok (.istore_n 2, 1) := by decide +kernel
theorem dX5_reachedFrom_24 : decode cX5_reachedFrom 24 = .ok (.iinc 3 1, 3) := by decide +kernel
theorem dX5_reachedFrom_27 : decode cX5_reachedFrom 27 = .ok (.goto (-19), 3) := by decide +kernel
theorem dX5_reachedFrom_30 : decode cX5_reachedFrom 30 = .ok (.iload_n 2, 1) := by decide +kernel
theorem dX5_reachedFrom_31 : decode cX5_reachedFrom 31 = .ok (.ireturn, 1) := by decide +kernel
theorem dX5_calledByAny_0 : decode cX5_calledByAny 0 = .ok (.iconst 0, 1) := by decide +kernel
theorem dX5_calledByAny_1 : decode cX5_calledByAny 1 = .ok (.istore_n 2, 1) := by decide +kernel
theorem dX5_calledByAny_2 : decode cX5_calledByAny 2 = .ok (.iconst 0, 1) := by decide +kernel
theorem dX5_calledByAny_3 : decode cX5_calledByAny 3 = .ok (.istore_n 3, 1) := by decide +kernel
theorem dX5_calledByAny_4 : decode cX5_calledByAny 4 = .ok (.iload_n 3, 1) := by decide +kernel
theorem dX5_calledByAny_5 : decode cX5_calledByAny 5 = .ok (.aload_n 0, 1) := by decide +kernel
theorem dX5_calledByAny_6 : decode cX5_calledByAny 6 = .ok (.getfield 27, 3) := by decide +kernel
theorem dX5_calledByAny_9 : decode cX5_calledByAny 9 = .ok (.if_icmp .ge 25, 3) := by decide +kernel
theorem dX5_calledByAny_12 : decode cX5_calledByAny 12 = .ok (.iload_n 1, 1) := by decide +kernel
theorem dX5_calledByAny_13 : decode cX5_calledByAny 13 = .ok (.iload_n 3, 1) := by decide +kernel
theorem dX5_calledByAny_14 : decode cX5_calledByAny 14 = .ok (.invokestatic 70, 3) := by decide +kernel
theorem dX5_calledByAny_17 : decode cX5_calledByAny 17 = .ok (.ifCond .eq 11, 3) := by decide +kernel
theorem dX5_calledByAny_20 : decode cX5_calledByAny 20 = .ok (.iload_n 2, 1) := by decide +kernel
theorem dX5_calledByAny_21 : decode cX5_calledByAny 21 = .ok (.aload_n 0, 1) := by decide +kernel
theorem dX5_calledByAny_22 : decode cX5_calledByAny 22 = .ok (.iload_n 3, 1) := by decide +kernel
theorem dX5_calledByAny_23 : decode cX5_calledByAny 23 = .ok (.invokevirtual 57, 3) := by decide +kernel
theorem dX5_calledByAny_26 : decode cX5_calledByAny 26 = .ok (.ior, 1) := by decide +kernel
theorem dX5_calledByAny_27 : decode cX5_calledByAny 27 = .ok (.istore_n 2, 1) := by decide +kernel
theorem dX5_calledByAny_28 : decode cX5_calledByAny 28 = .ok (.iinc 3 1, 3) := by decide +kernel
theorem dX5_calledByAny_31 : decode cX5_calledByAny 31 = .ok (.goto (-27), 3) := by decide +kernel
theorem dX5_calledByAny_34 : decode cX5_calledByAny 34 = .ok (.iload_n 2, 1) := by decide +kernel
theorem dX5_calledByAny_35 : decode cX5_calledByAny 35 = .ok (.ireturn, 1) := by decide +kernel
theorem dX5_isAbout_0 : decode cX5_isAbout 0 = .ok (.aload_n 0, 1) := by decide +kernel
theorem dX5_isAbout_1 : decode cX5_isAbout 1 = .ok (.iload_n 2, 1) := by decide +kernel
theorem dX5_isAbout_2 : decode cX5_isAbout 2 = .ok (.iconst 2, 1) := by decide +kernel
theorem dX5_isAbout_3 : decode cX5_isAbout 3 = .ok (.invokevirtual 40, 3) := by decide +kernel
theorem dX5_isAbout_6 : decode cX5_isAbout 6 = .ok (.istore_n 3, 1) := by decide +kernel
theorem dX5_isAbout_7 : decode cX5_isAbout 7 = .ok (.getstatic 74, 3) := by decide +kernel
theorem dX5_isAbout_10 : decode cX5_isAbout 10 = .ok (.aload_n 0, 1) := by decide +kernel
theorem dX5_isAbout_11 : decode cX5_isAbout 11 = .ok (.iload_n 2, 1) := by decide +kernel
theorem dX5_isAbout_12 : decode cX5_isAbout 12 = .ok (.iconst 1, 1) := by decide +kernel
theorem dX5_isAbout_13 : decode cX5_isAbout 13 = .ok (.invokevirtual 40, 3) := by decide +kernel
theorem dX5_isAbout_16 : decode cX5_isAbout 16 = .ok (.iaload, 1) := by decide +kernel
theorem dX5_isAbout_17 : decode cX5_isAbout 17 = .ok (.aload_n 0, 1) := by decide +kernel
theorem dX5_isAbout_18 : decode cX5_isAbout 18 = .ok (.getfield 9, 3) := by decide +kernel
theorem dX5_isAbout_21 : decode cX5_isAbout 21 = .ok (.iload_n 1, 1) := by decide +kernel
theorem dX5_isAbout_22 : decode cX5_isAbout 22 = .ok (.iaload, 1) := by decide +kernel
theorem dX5_isAbout_23 : decode cX5_isAbout 23 = .ok (.invokestatic 70, 3) := by decide +kernel
theorem dX5_isAbout_26 : decode cX5_isAbout 26 = .ok (.ifCond .eq 18, 3) := by decide +kernel
theorem dX5_isAbout_29 : decode cX5_isAbout 29 = .ok (.iload_n 3, 1) := by decide +kernel
theorem dX5_isAbout_30 : decode cX5_isAbout 30 = .ok (.bipush 6, 2) := by decide +kernel
theorem dX5_isAbout_32 : decode cX5_isAbout 32 = .ok (.if_icmp .eq 8, 3) := by decide +kernel
theorem dX5_isAbout_35 : decode cX5_isAbout 35 = .ok (.iload_n 3, 1) := by decide +kernel
theorem dX5_isAbout_36 : decode cX5_isAbout 36 = .ok (.iload_n 1, 1) := by decide +kernel
theorem dX5_isAbout_37 : decode cX5_isAbout 37 = .ok (.if_icmp .ne 7, 3) := by decide +kernel
theorem dX5_isAbout_40 : decode cX5_isAbout 40 = .ok (.iconst 1, 1) := by decide +kernel
theorem dX5_isAbout_41 : decode cX5_isAbout 41 = .ok (.goto 4, 3) := by decide +kernel
theorem dX5_isAbout_44 : decode cX5_isAbout 44 = .ok (.iconst 0, 1) := by decide +kernel
theorem dX5_isAbout_45 : decode cX5_isAbout 45 = .ok (.ireturn, 1) := by decide +kernel
theorem dX5_known_0 : decode cX5_known 0 = .ok (.aload_n 0, 1) := by decide +kernel
theorem dX5_known_1 : decode cX5_known 1 = .ok (.iload_n 2, 1) := by decide +kernel
theorem dX5_known_2 : decode cX5_known 2 = .ok (.iconst 3, 1) := by decide +kernel
theorem dX5_known_3 : decode cX5_known 3 = .ok (.invokevirtual 40, 3) := by decide +kernel
theorem dX5_known_6 : decode cX5_known 6 = .ok (.istore_n 3, 1) := by decide +kernel
theorem dX5_known_7 : decode cX5_known 7 = .ok (.aload_n 0, 1) := by decide +kernel
theorem dX5_known_8 : decode cX5_known 8 = .ok (.iload_n 2, 1) := by decide +kernel
theorem dX5_known_9 : decode cX5_known 9 = .ok (.iconst 4, 1) := by decide +kernel
theorem dX5_known_10 : decode cX5_known 10 = .ok (.invokevirtual 40, 3) := by decide +kernel
theorem dX5_known_13 : decode cX5_known 13 = .ok (.istore 4, 2) := by decide +kernel
theorem dX5_known_15 : decode cX5_known 15 = .ok (.aload_n 0, 1) := by decide +kernel
theorem dX5_known_16 : decode cX5_known 16 = .ok (.iload_n 1, 1) := by decide +kernel
theorem dX5_known_17 : decode cX5_known 17 = .ok (.iload_n 2, 1) := by decide +kernel
theorem dX5_known_18 : decode cX5_known 18 = .ok (.invokevirtual 77, 3) := by decide +kernel
theorem dX5_known_21 : decode cX5_known 21 = .ok (.ifCond .eq 17, 3) := by decide +kernel
theorem dX5_known_24 : decode cX5_known 24 = .ok (.iload_n 3, 1) := by decide +kernel
theorem dX5_known_25 : decode cX5_known 25 = .ok (.ifCond .eq 13, 3) := by decide +kernel
theorem dX5_known_28 : decode cX5_known 28 = .ok (.aload_n 0, 1) := by decide +kernel
theorem dX5_known_29 : decode cX5_known 29 = .ok (.iload_n 1, 1) := by decide +kernel
theorem dX5_known_30 : decode cX5_known 30 = .ok (.iload 4, 2) := by decide +kernel
theorem dX5_known_32 : decode cX5_known 32 = .ok (.invokevirtual 80, 3) := by decide +kernel
theorem dX5_known_35 : decode cX5_known 35 = .ok (.ifCond .ne 5, 3) := by decide +kernel
theorem dX5_known_38 : decode cX5_known 38 = .ok (.iconst 0, 1) := by decide +kernel
theorem dX5_known_39 : decode cX5_known 39 = .ok (.ireturn, 1) := by decide +kernel
theorem dX5_known_40 : decode cX5_known 40 = .ok (.iload_n 3, 1) := by decide +kernel
theorem dX5_known_41 : decode cX5_known 41 = .ok (.bipush 10, 2) := by decide +kernel
theorem dX5_known_43 : decode cX5_known 43 = .ok (.if_icmp .ne 20, 3) := by decide +kernel
theorem dX5_known_46 : decode cX5_known 46 = .ok (.iload 4, 2) := by decide +kernel
theorem dX5_known_48 : decode cX5_known 48 = .ok (.bipush 6, 2) := by decide +kernel
theorem dX5_known_50 : decode cX5_known 50 = .ok (.if_icmp .eq 9, 3) := by decide +kernel
theorem dX5_known_53 : decode cX5_known 53 = .ok (.iload 4, 2) := by decide +kernel
theorem dX5_known_55 : decode cX5_known 55 = .ok (.iload_n 1, 1) := by decide +kernel
theorem dX5_known_56 : decode cX5_known 56 = .ok (.if_icmp .ne 7, 3) := by decide +kernel
theorem dX5_known_59 : decode cX5_known 59 = .ok (.iconst 1, 1) := by decide +kernel
theorem dX5_known_60 : decode cX5_known 60 = .ok (.goto 4, 3) := by decide +kernel
theorem dX5_known_63 : decode cX5_known 63 = .ok (.iconst 2, 1) := by decide +kernel
theorem dX5_known_64 : decode cX5_known 64 = .ok (.ireturn, 1) := by decide +kernel
theorem dX5_mayBeWithin_0 : decode cX5_mayBeWithin 0 = .ok (.iload_n 2, 1) := by decide +kernel
theorem dX5_mayBeWithin_1 : decode cX5_mayBeWithin 1 = .ok (.bipush 6, 2) := by decide +kernel
theorem dX5_mayBeWithin_3 : decode cX5_mayBeWithin 3 = .ok (.if_icmp .eq 8, 3) := by decide +kernel
theorem dX5_mayBeWithin_6 : decode cX5_mayBeWithin 6 = .ok (.iload_n 2, 1) := by decide +kernel
theorem dX5_mayBeWithin_7 : decode cX5_mayBeWithin 7 = .ok (.iload_n 1, 1) := by decide +kernel
theorem dX5_mayBeWithin_8 : decode cX5_mayBeWithin 8 = .ok (.if_icmp .ne 5, 3) := by decide +kernel
theorem dX5_mayBeWithin_11 : decode cX5_mayBeWithin 11 = .ok (.iconst 1, 1) := by decide +kernel
theorem dX5_mayBeWithin_12 : decode cX5_mayBeWithin 12 = .ok (.ireturn, 1) := by decide +kernel
theorem dX5_mayBeWithin_13 : decode cX5_mayBeWithin 13 = .ok (.iload_n 2, 1) := by decide +kernel
theorem dX5_mayBeWithin_14 : decode cX5_mayBeWithin 14 = .ok (.aload_n 0, 1) := by decide +kernel
theorem dX5_mayBeWithin_15 : decode cX5_mayBeWithin 15 = .ok (.getfield 27, 3) := by decide +kernel
theorem dX5_mayBeWithin_18 : decode cX5_mayBeWithin 18 = .ok (.if_icmp .ge 19, 3) := by decide +kernel
theorem dX5_mayBeWithin_21 : decode cX5_mayBeWithin 21 = .ok (.aload_n 0, 1) := by decide +kernel
theorem dX5_mayBeWithin_22 : decode cX5_mayBeWithin 22 = .ok (.iload_n 2, 1) := by decide +kernel
theorem dX5_mayBeWithin_23 : decode cX5_mayBeWithin 23 = .ok (.invokevirtual 83, 3) := by decide +kernel
theorem dX5_mayBeWithin_26 : decode cX5_mayBeWithin 26 = .ok (.iload_n 1, 1) := by decide +kernel
theorem dX5_mayBeWithin_27 : decode cX5_mayBeWithin 27 = .ok (.invokestatic 70, 3) := by decide +kernel
theorem dX5_mayBeWithin_30 : decode cX5_mayBeWithin 30 = .ok (.ifCond .eq 7, 3) := by decide +kernel
theorem dX5_mayBeWithin_33 : decode cX5_mayBeWithin 33 = .ok (.iconst 1, 1) := by decide +kernel
theorem dX5_mayBeWithin_34 : decode cX5_mayBeWithin 34 = .ok (.goto 4, 3) := by decide +kernel
theorem dX5_mayBeWithin_37 : decode cX5_mayBeWithin 37 = .ok (.iconst 0, 1) := by decide +kernel
theorem dX5_mayBeWithin_38 : decode cX5_mayBeWithin 38 = .ok (.ireturn, 1) := by decide +kernel
theorem dX5_testedAbout_0 : decode cX5_testedAbout 0 = .ok (.iconst 0, 1) := by decide +kernel
theorem dX5_testedAbout_1 : decode cX5_testedAbout 1 = .ok (.istore_n 2, 1) := by decide +kernel
theorem dX5_testedAbout_2 : decode cX5_testedAbout 2 = .ok (.iconst 0, 1) := by decide +kernel
theorem dX5_testedAbout_3 : decode cX5_testedAbout 3 = .ok (.istore_n 3, 1) := by decide +kernel
theorem dX5_testedAbout_4 : decode cX5_testedAbout 4 = .ok (.iload_n 3, 1) := by decide +kernel
theorem dX5_testedAbout_5 : decode cX5_testedAbout 5 = .ok (.aload_n 0, 1) := by decide +kernel
theorem dX5_testedAbout_6 : decode cX5_testedAbout 6 = .ok (.getfield 31, 3) := by decide +kernel
theorem dX5_testedAbout_9 : decode cX5_testedAbout 9 = .ok (.if_icmp .ge 27, 3) := by decide +kernel
theorem dX5_testedAbout_12 : decode cX5_testedAbout 12 = .ok (.iload_n 2, 1) := by decide +kernel
theorem dX5_testedAbout_13 : decode cX5_testedAbout 13 = .ok (.aload_n 0, 1) := by decide +kernel
theorem dX5_testedAbout_14 : decode cX5_testedAbout 14 = .ok (.iload_n 1, 1) := by decide +kernel
theorem dX5_testedAbout_15 : decode cX5_testedAbout 15 = .ok (.iload_n 3, 1) := by decide +kernel
theorem dX5_testedAbout_16 : decode cX5_testedAbout 16 = .ok (.invokevirtual 86, 3) := by decide +kernel
theorem dX5_testedAbout_19 : decode cX5_testedAbout 19 = .ok (.iconst 2, 1) := by decide +kernel
theorem dX5_testedAbout_20 : decode cX5_testedAbout 20 = .ok (.if_icmp .ne 7, 3) := by decide +kernel
theorem dX5_testedAbout_23 : decode cX5_testedAbout 23 = .ok (.iconst 1, 1) := by decide +kernel
theorem dX5_testedAbout_24 : decode cX5_testedAbout 24 = .ok (.goto 4, 3) := by decide +kernel
theorem dX5_testedAbout_27 : decode cX5_testedAbout 27 = .ok (.iconst 0, 1) := by decide +kernel
theorem dX5_testedAbout_28 : decode cX5_testedAbout 28 = .ok (.iadd, 1) := by decide +kernel
theorem dX5_testedAbout_29 : decode cX5_testedAbout 29 = .ok (.istore_n 2, 1) := by decide +kernel
theorem dX5_testedAbout_30 : decode cX5_testedAbout 30 = .ok (.iinc 3 1, 3) := by decide +kernel
theorem dX5_testedAbout_33 : decode cX5_testedAbout 33 = .ok (.goto (-29), 3) := by decide +kernel
theorem dX5_testedAbout_36 : decode cX5_testedAbout 36 = .ok (.iload_n 2, 1) := by decide +kernel
theorem dX5_testedAbout_37 : decode cX5_testedAbout 37 = .ok (.ireturn, 1) := by decide +kernel
theorem dX5_methodsNotNever_0 : decode cX5_methodsNotNever 0 = .ok (.iconst 0, 1) := by decide +kernel
theorem dX5_methodsNotNever_1 : decode cX5_methodsNotNever 1 = .ok (.istore_n 2, 1) := by decide +kernel
theorem dX5_methodsNotNever_2 : decode cX5_methodsNotNever 2 = .ok (.iconst 0, 1) := by decide +kernel
theorem dX5_methodsNotNever_3 : decode cX5_methodsNotNever 3 = .ok (.istore_n 3, 1) := by decide +kernel
theorem dX5_methodsNotNever_4 : decode cX5_methodsNotNever 4 = .ok (.iload_n 3, 1) := by decide +kernel
theorem dX5_methodsNotNever_5 : decode cX5_methodsNotNever 5 = .ok (.aload_n 0, 1) := by decide +kernel
theorem dX5_methodsNotNever_6 : decode cX5_methodsNotNever 6 = .ok (.getfield 27, 3) := by decide +kernel
theorem dX5_methodsNotNever_9 : decode cX5_methodsNotNever 9 = .ok (.if_icmp .ge 26, 3) := by decide +kernel
theorem dX5_methodsNotNever_12 : decode cX5_methodsNotNever 12 = .ok (.iload_n 2, 1) := by decide +kernel
theorem dX5_methodsNotNever_13 : decode cX5_methodsNotNever 13 = .ok (.aload_n 0, 1) := by decide +kernel
theorem dX5_methodsNotNever_14 : decode cX5_methodsNotNever 14 = .ok (.iload_n 3, 1) := by decide +kernel
theorem dX5_methodsNotNever_15 : decode cX5_methodsNotNever 15 = .ok (.iload_n 1, 1) := by decide +kernel
theorem dX5_methodsNotNever_16 : decode cX5_methodsNotNever 16 = .ok (.invokevirtual 86, 3) := by decide +kernel
theorem dX5_methodsNotNever_19 : decode cX5_methodsNotNever 19 = .ok (.ifCond .ne 7, 3) := by decide +kernel
theorem dX5_methodsNotNever_22 : decode cX5_methodsNotNever 22 = .ok (.iconst 0, 1) := by decide +kernel
theorem dX5_methodsNotNever_23 : decode cX5_methodsNotNever 23 = .ok (.goto 4, 3) := by decide +kernel
theorem dX5_methodsNotNever_26 : decode cX5_methodsNotNever 26 = .ok (.iconst 1, 1) := by decide +kernel
theorem dX5_methodsNotNever_27 : decode cX5_methodsNotNever 27 = .ok (.iadd, 1) := by decide +kernel
theorem dX5_methodsNotNever_28 : decode cX5_methodsNotNever 28 = .ok (.istore_n 2, 1) := by decide +kernel
theorem dX5_methodsNotNever_29 : decode cX5_methodsNotNever 29 = .ok (.iinc 3 1, 3) := by decide +kernel
theorem dX5_methodsNotNever_32 : decode cX5_methodsNotNever 32 = .ok (.goto (-28), 3) := by decide +kernel
theorem dX5_methodsNotNever_35 : decode cX5_methodsNotNever 35 = .ok (.iload_n 2, 1) := by decide +kernel
theorem dX5_methodsNotNever_36 : decode cX5_methodsNotNever 36 = .ok (.ireturn, 1) := by decide +kernel
theorem dX5_meantAt_0 : decode cX5_meantAt 0 = .ok (.iconst 0, 1) := by decide +kernel
theorem dX5_meantAt_1 : decode cX5_meantAt 1 = .ok (.istore 4, 2) := by decide +kernel
theorem dX5_meantAt_3 : decode cX5_meantAt 3 = .ok (.iconst 0, 1) := by decide +kernel
theorem dX5_meantAt_4 : decode cX5_meantAt 4 = .ok (.istore 5, 2) := by decide +kernel
theorem dX5_meantAt_6 : decode cX5_meantAt 6 = .ok (.iload 5, 2) := by decide +kernel
theorem dX5_meantAt_8 : decode cX5_meantAt 8 = .ok (.aload_n 0, 1) := by decide +kernel
theorem dX5_meantAt_9 : decode cX5_meantAt 9 = .ok (.getfield 31, 3) := by decide +kernel
theorem dX5_meantAt_12 : decode cX5_meantAt 12 = .ok (.if_icmp .ge 64, 3) := by decide +kernel
theorem dX5_meantAt_15 : decode cX5_meantAt 15 = .ok (.aload_n 0, 1) := by decide +kernel
theorem dX5_meantAt_16 : decode cX5_meantAt 16 = .ok (.iload 5, 2) := by decide +kernel
theorem dX5_meantAt_18 : decode cX5_meantAt 18 = .ok (.iconst 4, 1) := by decide +kernel
theorem dX5_meantAt_19 : decode cX5_meantAt 19 = .ok (.invokevirtual 40, 3) := by decide +kernel
theorem dX5_meantAt_22 : decode cX5_meantAt 22 = .ok (.istore 6, 2) := by decide +kernel
theorem dX5_meantAt_24 : decode cX5_meantAt 24 = .ok (.aload_n 0, 1) := by decide +kernel
theorem dX5_meantAt_25 : decode cX5_meantAt 25 = .ok (.iload_n 1, 1) := by decide +kernel
theorem dX5_meantAt_26 : decode cX5_meantAt 26 = .ok (.iload 5, 2) := by decide +kernel
theorem dX5_meantAt_28 : decode cX5_meantAt 28 = .ok (.invokevirtual 77, 3) := by decide +kernel
theorem dX5_meantAt_31 : decode cX5_meantAt 31 = .ok (.ifCond .eq 39, 3) := by decide +kernel
theorem dX5_meantAt_34 : decode cX5_meantAt 34 = .ok (.iload_n 2, 1) := by decide +kernel
theorem dX5_meantAt_35 : decode cX5_meantAt 35 = .ok (.aload_n 0, 1) := by decide +kernel
theorem dX5_meantAt_36 : decode cX5_meantAt 36 = .ok (.iload 5, 2) := by decide +kernel
theorem dX5_meantAt_38 : decode cX5_meantAt 38 = .ok (.iconst 3, 1) := by decide +kernel
theorem dX5_meantAt_39 : decode cX5_meantAt 39 = .ok (.invokevirtual 40, 3) := by decide +kernel
theorem dX5_meantAt_42 : decode cX5_meantAt 42 = .ok (.if_icmp .ge 28, 3) := by decide +kernel
theorem dX5_meantAt_45 : decode cX5_meantAt 45 = .ok (.iload 6, 2) := by decide +kernel
theorem dX5_meantAt_47 : decode cX5_meantAt 47 = .ok (.bipush 6, 2) := by decide +kernel
theorem dX5_meantAt_49 : decode cX5_meantAt 49 = .ok (.if_icmp .eq 12, 3) := by decide +kernel
theorem dX5_meantAt_52 : decode cX5_meantAt 52 = .ok (.iload_n 3, 1) := by decide +kernel
theorem dX5_meantAt_53 : decode cX5_meantAt 53 = .ok (.iload 6, 2) := by decide +kernel
theorem dX5_meantAt_55 : decode cX5_meantAt 55 = .ok (.invokestatic 70, 3) := by decide +kernel
theorem dX5_meantAt_58 : decode cX5_meantAt 58 = .ok (.ifCond .eq 12, 3) := by decide +kernel
theorem dX5_meantAt_61 : decode cX5_meantAt 61 = .ok (.iload 4, 2) := by decide +kernel
theorem dX5_meantAt_63 : decode cX5_meantAt 63 = .ok (.iconst 1, 1) := by decide +kernel
theorem dX5_meantAt_64 : decode cX5_meantAt 64 = .ok (.iload 5, 2) := by decide +kernel
theorem dX5_meantAt_66 : decode cX5_meantAt 66 = .ok (.ishl, 1) := by decide +kernel
theorem dX5_meantAt_67 : decode cX5_meantAt 67 = .ok (.ior, 1) := by decide +kernel
theorem dX5_meantAt_68 : decode cX5_meantAt 68 = .ok (.istore 4, 2) := by decide +kernel
theorem dX5_meantAt_70 : decode cX5_meantAt 70 = .ok (.iinc 5 1, 3) := by decide +kernel
theorem dX5_meantAt_73 : decode cX5_meantAt 73 = .ok (.goto (-67), 3) := by decide +kernel
theorem dX5_meantAt_76 : decode cX5_meantAt 76 = .ok (.iload 4, 2) := by decide +kernel
theorem dX5_meantAt_78 : decode cX5_meantAt 78 = .ok (.ireturn, 1) := by decide +kernel
end
section
theorem dX6_init_0 : decode cX6_init 0 = .ok (.aload_n 0, 1) := by decide +kernel
theorem dX6_init_1 : decode cX6_init 1 = .ok (.invokespecial 1, 3) := by decide +kernel
theorem dX6_init_4 : decode cX6_init 4 = .ok (.aload_n 0, 1) := by decide +kernel
theorem dX6_init_5 : decode cX6_init 5 = .ok (.bipush 8, 2) := by decide +kernel
theorem dX6_init_7 : decode cX6_init 7 = .ok (.anewarray 9, 3) := by decide +kernel
theorem dX6_init_10 : decode cX6_init 10 = .ok (.putfield 11, 3) := by decide +kernel
theorem dX6_init_13 : decode cX6_init 13 = .ok (.aload_n 0, 1) := by decide +kernel
theorem dX6_init_14 : decode cX6_init 14 = .ok (.new 15, 3) := by decide +kernel
theorem dX6_init_17 : decode cX6_init 17 = .ok (.dup, 1) := by decide +kernel
theorem dX6_init_18 : decode cX6_init 18 = .ok (.invokespecial 17, 3) := by decide +kernel
theorem dX6_init_21 : decode cX6_init 21 = .ok (.putfield 18, 3) := by decide +kernel
theorem dX6_init_24 : decode cX6_init 24 = .ok (.aload_n 0, 1) := by decide +kernel
theorem dX6_init_25 : decode cX6_init 25 = .ok (.new 22, 3) := by decide +kernel
theorem dX6_init_28 : decode cX6_init 28 = .ok (.dup, 1) := by decide +kernel
theorem dX6_init_29 : decode cX6_init 29 = .ok (.invokespecial 24, 3) := by decide +kernel
theorem dX6_init_32 : decode cX6_init 32 = .ok (.putfield 25, 3) := by decide +kernel
theorem dX6_init_35 : decode cX6_init 35 = .ok (.aload_n 0, 1) := by decide +kernel
theorem dX6_init_36 : decode cX6_init 36 = .ok (.new 22, 3) := by decide +kernel
theorem dX6_init_39 : decode cX6_init 39 = .ok (.dup, 1) := by decide +kernel
theorem dX6_init_40 : decode cX6_init 40 = .ok (.invokespecial 24, 3) := by decide +kernel
theorem dX6_init_43 : decode cX6_init 43 = .ok (.putfield 29, 3) := by decide +kernel
theorem dX6_init_46 : decode cX6_init 46 = .ok (.aload_n 0, 1) := by decide +kernel
theorem dX6_init_47 : decode cX6_init 47 = .ok (.iconst 2, 1) := by decide +kernel
theorem dX6_init_48 : decode cX6_init 48 = .ok (.anewarray 22, 3) := by decide +kernel
theorem dX6_init_51 : decode cX6_init 51 = .ok (.putfield 32, 3) := by decide +kernel
theorem dX6_init_54 : decode cX6_init 54 = .ok (.aload_n 0, 1) := by decide +kernel
theorem dX6_init_55 : decode cX6_init 55 = .ok (.new 36, 3) := by decide +kernel
theorem dX6_init_58 : decode cX6_init 58 = .ok (.dup, 1) := by decide +kernel
theorem dX6_init_59 : decode cX6_init 59 = .ok (.invokespecial 38, 3) := by decide +kernel
theorem dX6_init_62 : decode cX6_init 62 = .ok (.putfield 39, 3) := by decide +kernel
theorem dX6_init_65 : decode cX6_init 65 = .ok (.aload_n 0, 1) := by decide +kernel
theorem dX6_init_66 : decode cX6_init 66 = .ok (.new 43, 3) := by decide +kernel
theorem dX6_init_69 : decode cX6_init 69 = .ok (.dup, 1) := by decide +kernel
theorem dX6_init_70 : decode cX6_init 70 = .ok (.aload_n 0, 1) := by decide +kernel
theorem dX6_init_71 : decode cX6_init 71 = .ok (.getfield 25, 3) := by decide +kernel
theorem dX6_init_74 : decode cX6_init 74 = .ok (.invokespecial 45, 3) := by decide +kernel
theorem dX6_init_77 : decode cX6_init 77 = .ok (.putfield 48, 3) := by decide +kernel
theorem dX6_init_80 : decode cX6_init 80 = .ok (.aload_n 0, 1) := by decide +kernel
theorem dX6_init_81 : decode cX6_init 81 = .ok (.new 52, 3) := by decide +kernel
theorem dX6_init_84 : decode cX6_init 84 = .ok (.dup, 1) := by decide +kernel
theorem dX6_init_85 : decode cX6_init 85 = .ok (.aload_n 0, 1) := by decide +kernel
theorem dX6_init_86 : decode cX6_init 86 = .ok (.getfield 25, 3) := by decide +kernel
theorem dX6_init_89 : decode cX6_init 89 = .ok (.invokespecial 54, 3) := by decide +kernel
theorem dX6_init_92 : decode cX6_init 92 = .ok (.putfield 55, 3) := by decide +kernel
theorem dX6_init_95 : decode cX6_init 95 = .ok (.aload_n 0, 1) := by decide +kernel
theorem dX6_init_96 : decode cX6_init 96 = .ok (.iconst 0, 1) := by decide +kernel
theorem dX6_init_97 : decode cX6_init 97 = .ok (.putfield 59, 3) := by decide +kernel
theorem dX6_init_100 : decode cX6_init 100 = .ok (.aload_n 0, 1) := by decide +kernel
theorem dX6_init_101 : decode cX6_init 101 = .ok (.iconst 0, 1) := by decide +kernel
theorem dX6_init_102 : decode cX6_init 102 = .ok (.putfield 63, 3) := by decide +kernel
theorem dX6_init_105 : decode cX6_init 105 = .ok (.iconst 0, 1) := by decide +kernel
theorem dX6_init_106 : decode cX6_init 106 = .ok (.istore_n 1, 1) := by decide +kernel
theorem dX6_init_107 : decode cX6_init 107 = .ok (.iload_n 1, 1) := by decide +kernel
theorem dX6_init_108 : decode cX6_init 108 = .ok (.bipush 8, 2) := by decide +kernel
theorem dX6_init_110 : decode cX6_init 110 = .ok (.if_icmp .ge 22, 3) := by decide +kernel
theorem dX6_init_113 : decode cX6_init 113 = .ok (.aload_n 0, 1) := by decide +kernel
theorem dX6_init_114 : decode cX6_init 114 = .ok (.getfield 11, 3) := by decide +kernel
theorem dX6_init_117 : decode cX6_init 117 = .ok (.iload_n 1, 1) := by decide +kernel
theorem dX6_init_118 : decode cX6_init 118 = .ok (.new 9, 3) := by decide +kernel
theorem dX6_init_121 : decode cX6_init 121 = .ok (.dup, 1) := by decide +kernel
theorem dX6_init_122 : decode cX6_init 122 = .ok (.invokespecial 66, 3) := by decide +kernel
theorem dX6_init_125 : decode cX6_init 125 = .ok (.aastore, 1) := by decide +kernel
theorem dX6_init_126 : decode cX6_init 126 = .ok (.iinc 1 1, 3) := by decide +kernel
theorem dX6_init_129 : decode cX6_init 129 = .ok (.goto (-22), 3) := by decide +kernel
theorem dX6_init_132 : decode cX6_init 132 = .ok (.iconst 0, 1) := by decide +kernel
theorem dX6_init_133 : decode cX6_init 133 = .ok (.istore_n 1, 1) := by decide +kernel
theorem dX6_init_134 : decode cX6_init 134 = .ok (.iload_n 1, 1) := by decide +kernel
theorem dX6_init_135 : decode cX6_init 135 = .ok (.iconst 2, 1) := by decide +kernel
theorem dX6_init_136 : decode cX6_init 136 = .ok (.if_icmp .ge 22, 3) := by decide +kernel
theorem dX6_init_139 : decode cX6_init 139 = .ok (.aload_n 0, 1) := by decide +kernel
theorem dX6_init_140 : decode cX6_init 140 = .ok (.getfield 32, 3) := by decide +kernel
theorem dX6_init_143 : decode cX6_init 143 = .ok (.iload_n 1, 1) := by decide +kernel
theorem dX6_init_144 : decode cX6_init 144 = .ok (.new 22, 3) := by decide +kernel
theorem dX6_init_147 : decode cX6_init 147 = .ok (.dup, 1) := by decide +kernel
theorem dX6_init_148 : decode cX6_init 148 = .ok (.invokespecial 24, 3) := by decide +kernel
theorem dX6_init_151 : decode cX6_init 151 = .ok (.aastore, 1) := by decide +kernel
theorem dX6_init_152 : decode cX6_init 152 = .ok (.iinc 1 1, 3) := by decide +kernel
theorem dX6_init_155 : decode cX6_init 155 = .ok (.goto (-21), 3) := by decide +kernel
theorem dX6_init_158 : decode cX6_init 158 = .ok (.return_, 1) := by decide +kernel
theorem dX6_row_0 : decode cX6_row 0 = .ok (.iload_n 1, 1) := by decide +kernel
theorem dX6_row_1 : decode cX6_row 1 = .ok (.invokestatic 67, 3) := by decide +kernel
theorem dX6_row_4 : decode cX6_row 4 = .ok (.ifCond .eq 18, 3) := by decide +kernel
theorem dX6_row_7 : decode cX6_row 7 = .ok (.iload_n 2, 1) := by decide +kernel
theorem dX6_row_8 : decode cX6_row 8 = .ok (.iconst 0, 1) := by decide +kernel
theorem dX6_row_9 : decode cX6_row 9 = .ok (.iconst 2, 1) := by decide +kernel
theorem dX6_row_10 : decode cX6_row 10 = .ok (.invokestatic 71, 3) := by decide +kernel
theorem dX6_row_13 : decode cX6_row 13 = .ok (.ifCond .eq 9, 3) := by decide +kernel
theorem dX6_row_16 : decode cX6_row 16 = .ok (.iload_n 3, 1) := by decide +kernel
theorem dX6_row_17 : decode cX6_row 17 = .ok (.bipush 40, 2) := by decide +kernel
theorem dX6_row_19 : decode cX6_row 19 = .ok (.if_icmp .le 6, 3) := by decide +kernel
theorem dX6_row_22 : decode cX6_row 22 = .ok (.ldc 75, 2) := by decide +kernel
theorem dX6_row_24 : decode cX6_row 24 = .ok (.ireturn, 1) := by decide +kernel
theorem dX6_row_25 : decode cX6_row 25 = .ok (.iload_n 3, 1) := by decide +kernel
theorem dX6_row_26 : decode cX6_row 26 = .ok (.ifCond .ge 9, 3) := by decide +kernel
theorem dX6_row_29 : decode cX6_row 29 = .ok (.aload_n 0, 1) := by decide +kernel
theorem dX6_row_30 : decode cX6_row 30 = .ok (.iconst 4, 1) := by decide +kernel
theorem dX6_row_31 : decode cX6_row 31 = .ok (.invokevirtual 76, 3) := by decide +kernel
theorem dX6_row_34 : decode cX6_row 34 = .ok (.ireturn, 1) := by decide +kernel
theorem dX6_row_35 : decode cX6_row 35 = .ok (.aload_n 0, 1) := by decide +kernel
theorem dX6_row_36 : decode cX6_row 36 = .ok (.getfield 11, 3) := by decide +kernel
theorem dX6_row_39 : decode cX6_row 39 = .ok (.iload_n 1, 1) := by decide +kernel
theorem dX6_row_40 : decode cX6_row 40 = .ok (.aaload, 1) := by decide +kernel
theorem dX6_row_41 : decode cX6_row 41 = .ok (.iload_n 2, 1) := by decide +kernel
theorem dX6_row_42 : decode cX6_row 42 = .ok (.iload_n 3, 1) := by decide +kernel
theorem dX6_row_43 : decode cX6_row 43 = .ok (.invokevirtual 80, 3) := by decide +kernel
theorem dX6_row_46 : decode cX6_row 46 = .ok (.aload_n 0, 1) := by decide +kernel
theorem dX6_row_47 : decode cX6_row 47 = .ok (.iload_n 3, 1) := by decide +kernel
theorem dX6_row_48 : decode cX6_row 48 = .ok (.invokevirtual 84, 3) := by decide +kernel
theorem dX6_row_51 : decode cX6_row 51 = .ok (.ireturn, 1) := by decide +kernel
theorem dX6_set_0 : decode cX6_set 0 = .ok (.iload_n 1, 1) := by decide +kernel
theorem dX6_set_1 : decode cX6_set 1 = .ok (.invokestatic 67, 3) := by decide +kernel
theorem dX6_set_4 : decode cX6_set 4 = .ok (.ifCond .ne 6, 3) := by decide +kernel
theorem dX6_set_7 : decode cX6_set 7 = .ok (.ldc 75, 2) := by decide +kernel
theorem dX6_set_9 : decode cX6_set 9 = .ok (.ireturn, 1) := by decide +kernel
theorem dX6_set_10 : decode cX6_set 10 = .ok (.aload_n 0, 1) := by decide +kernel
theorem dX6_set_11 : decode cX6_set 11 = .ok (.getfield 11, 3) := by decide +kernel
theorem dX6_set_14 : decode cX6_set 14 = .ok (.iload_n 1, 1) := by decide +kernel
theorem dX6_set_15 : decode cX6_set 15 = .ok (.aaload, 1) := by decide +kernel
theorem dX6_set_16 : decode cX6_set 16 = .ok (.invokevirtual 87, 3) := by decide +kernel
theorem dX6_set_19 : decode cX6_set 19 = .ok (.ifCond .eq 9, 3) := by decide +kernel
theorem dX6_set_22 : decode cX6_set 22 = .ok (.aload_n 0, 1) := by decide +kernel
theorem dX6_set_23 : decode cX6_set 23 = .ok (.iconst 1, 1) := by decide +kernel
theorem dX6_set_24 : decode cX6_set 24 = .ok (.invokevirtual 76, 3) := by decide +kernel
theorem dX6_set_27 : decode cX6_set 27 = .ok (.ireturn, 1) := by decide +kernel
theorem dX6_set_28 : decode cX6_set 28 = .ok (.iload_n 2, 1) := by decide +kernel
theorem dX6_set_29 : decode cX6_set 29 = .ok (.ifCond .lt 16, 3) := by decide +kernel
theorem dX6_set_32 : decode cX6_set 32 = .ok (.iload_n 2, 1) := by decide +kernel
theorem dX6_set_33 : decode cX6_set 33 = .ok (.aload_n 0, 1) := by decide +kernel
theorem dX6_set_34 : decode cX6_set 34 = .ok (.getfield 11, 3) := by decide +kernel
theorem dX6_set_37 : decode cX6_set 37 = .ok (.iload_n 1, 1) := by decide +kernel
theorem dX6_set_38 : decode cX6_set 38 = .ok (.aaload, 1) := by decide +kernel
theorem dX6_set_39 : decode cX6_set 39 = .ok (.invokevirtual 91, 3) := by decide +kernel
theorem dX6_set_42 : decode cX6_set 42 = .ok (.if_icmp .lt 9, 3) := by decide +kernel
theorem dX6_set_45 : decode cX6_set 45 = .ok (.aload_n 0, 1) := by decide +kernel
theorem dX6_set_46 : decode cX6_set 46 = .ok (.iconst 2, 1) := by decide +kernel
theorem dX6_set_47 : decode cX6_set 47 = .ok (.invokevirtual 76, 3) := by decide +kernel
theorem dX6_set_50 : decode cX6_set 50 = .ok (.ireturn, 1) := by decide +kernel
theorem dX6_set_51 : decode cX6_set 51 = .ok (.aload_n 0, 1) := by decide +kernel
theorem dX6_set_52 : decode cX6_set 52 = .ok (.aload_n 0, 1) := by decide +kernel
theorem dX6_set_53 : decode cX6_set 53 = .ok (.getfield 11, 3) := by decide +kernel
theorem dX6_set_56 : decode cX6_set 56 = .ok (.iload_n 1, 1) := by decide +kernel
theorem dX6_set_57 : decode cX6_set 57 = .ok (.aaload, 1) := by decide +kernel
theorem dX6_set_58 : decode cX6_set 58 = .ok (.iload_n 2, 1) := by decide +kernel
theorem dX6_set_59 : decode cX6_set 59 = .ok (.iload_n 3, 1) := by decide +kernel
theorem dX6_set_60 : decode cX6_set 60 = .ok (.invokevirtual 95, 3) := by decide +kernel
theorem dX6_set_63 : decode cX6_set 63 = .ok (.invokevirtual 84, 3) := by decide +kernel
theorem dX6_set_66 : decode cX6_set 66 = .ok (.ireturn, 1) := by decide +kernel
theorem dX6_copy_0 : decode cX6_copy 0 = .ok (.iload_n 1, 1) := by decide +kernel
theorem dX6_copy_1 : decode cX6_copy 1 = .ok (.invokestatic 67, 3) := by decide +kernel
theorem dX6_copy_4 : decode cX6_copy 4 = .ok (.ifCond .eq 10, 3) := by decide +kernel
theorem dX6_copy_7 : decode cX6_copy 7 = .ok (.iload_n 3, 1) := by decide +kernel
theorem dX6_copy_8 : decode cX6_copy 8 = .ok (.invokestatic 67, 3) := by decide +kernel
theorem dX6_copy_11 : decode cX6_copy 11 = .ok (.ifCond .ne 6, 3) := by decide +kernel
theorem dX6_copy_14 : decode cX6_copy 14 = .ok (.ldc 75, 2) := by decide +kernel
theorem dX6_copy_16 : decode cX6_copy 16 = .ok (.ireturn, 1) := by decide +kernel
theorem dX6_copy_17 : decode cX6_copy 17 = .ok (.aload_n 0, 1) := by decide +kernel
theorem dX6_copy_18 : decode cX6_copy 18 = .ok (.getfield 11, 3) := by decide +kernel
theorem dX6_copy_21 : decode cX6_copy 21 = .ok (.iload_n 1, 1) := by decide +kernel
theorem dX6_copy_22 : decode cX6_copy 22 = .ok (.aaload, 1) := by decide +kernel
theorem dX6_copy_23 : decode cX6_copy 23 = .ok (.invokevirtual 87, 3) := by decide +kernel
theorem dX6_copy_26 : decode cX6_copy 26 = .ok (.ifCond .ne 15, 3) := by decide +kernel
theorem dX6_copy_29 : decode cX6_copy 29 = .ok (.aload_n 0, 1) := by decide +kernel
theorem dX6_copy_30 : decode cX6_copy 30 = .ok (.getfield 11, 3) := by decide +kernel
theorem dX6_copy_33 : decode cX6_copy 33 = .ok (.iload_n 3, 1) := by decide +kernel
theorem dX6_copy_34 : decode cX6_copy 34 = .ok (.aaload, 1) := by decide +kernel
theorem dX6_copy_35 : decode cX6_copy 35 = .ok (.invokevirtual 87, 3) := by decide +kernel
theorem dX6_copy_38 : decode cX6_copy 38 = .ok (.ifCond .eq 9, 3) := by decide +kernel
theorem dX6_copy_41 : decode cX6_copy 41 = .ok (.aload_n 0, 1) := by decide +kernel
theorem dX6_copy_42 : decode cX6_copy 42 = .ok (.iconst 1, 1) := by decide +kernel
theorem dX6_copy_43 : decode cX6_copy 43 = .ok (.invokevirtual 76, 3) := by decide +kernel
theorem dX6_copy_46 : decode cX6_copy 46 = .ok (.ireturn, 1) := by decide +kernel
theorem dX6_copy_47 : decode cX6_copy 47 = .ok (.aload_n 0, 1) := by decide +kernel
theorem dX6_copy_48 : decode cX6_copy 48 = .ok (.getfield 11, 3) := by decide +kernel
theorem dX6_copy_51 : decode cX6_copy 51 = .ok (.iload_n 1, 1) := by decide +kernel
theorem dX6_copy_52 : decode cX6_copy 52 = .ok (.aaload, 1) := by decide +kernel
theorem dX6_copy_53 : decode cX6_copy 53 = .ok (.invokevirtual 99, 3) := by decide +kernel
theorem dX6_copy_56 : decode cX6_copy 56 = .ok (.aload_n 0, 1) := by decide +kernel
theorem dX6_copy_57 : decode cX6_copy 57 = .ok (.getfield 11, 3) := by decide +kernel
theorem dX6_copy_60 : decode cX6_copy 60 = .ok (.iload_n 3, 1) := by decide +kernel
theorem dX6_copy_61 : decode cX6_copy 61 = .ok (.aaload, 1) := by decide +kernel
theorem dX6_copy_62 : decode cX6_copy 62 = .ok (.invokevirtual 99, 3) := by decide +kernel
theorem dX6_copy_65 : decode cX6_copy 65 = .ok (.if_icmp .eq 9, 3) := by decide +kernel
theorem dX6_copy_68 : decode cX6_copy 68 = .ok (.aload_n 0, 1) := by decide +kernel
theorem dX6_copy_69 : decode cX6_copy 69 = .ok (.iconst 5, 1) := by decide +kernel
theorem dX6_copy_70 : decode cX6_copy 70 = .ok (.invokevirtual 76, 3) := by decide +kernel
theorem dX6_copy_73 : decode cX6_copy 73 = .ok (.ireturn, 1) := by decide +kernel
theorem dX6_copy_74 : decode cX6_copy 74 = .ok (.aload_n 0, 1) := by decide +kernel
theorem dX6_copy_75 : decode cX6_copy 75 = .ok (.getfield 11, 3) := by decide +kernel
theorem dX6_copy_78 : decode cX6_copy 78 = .ok (.iload_n 1, 1) := by decide +kernel
theorem dX6_copy_79 : decode cX6_copy 79 = .ok (.aaload, 1) := by decide +kernel
theorem dX6_copy_80 : decode cX6_copy 80 = .ok (.iload_n 2, 1) := by decide +kernel
theorem dX6_copy_81 : decode cX6_copy 81 = .ok (.iload 5, 2) := by decide +kernel
theorem dX6_copy_83 : decode cX6_copy 83 = .ok (.invokevirtual 102, 3) := by decide +kernel
theorem dX6_copy_86 : decode cX6_copy 86 = .ok (.ifCond .eq 19, 3) := by decide +kernel
theorem dX6_copy_89 : decode cX6_copy 89 = .ok (.aload_n 0, 1) := by decide +kernel
theorem dX6_copy_90 : decode cX6_copy 90 = .ok (.getfield 11, 3) := by decide +kernel
theorem dX6_copy_93 : decode cX6_copy 93 = .ok (.iload_n 3, 1) := by decide +kernel
theorem dX6_copy_94 : decode cX6_copy 94 = .ok (.aaload, 1) := by decide +kernel
theorem dX6_copy_95 : decode cX6_copy 95 = .ok (.iload 4, 2) := by decide +kernel
theorem dX6_copy_97 : decode cX6_copy 97 = .ok (.iload 5, 2) := by decide +kernel
theorem dX6_copy_99 : decode cX6_copy 99 = .ok (.invokevirtual 102, 3) := by decide +kernel
theorem dX6_copy_102 : decode cX6_copy 102 = .ok (.ifCond .ne 9, 3) := by decide +kernel
theorem dX6_copy_105 : decode cX6_copy 105 = .ok (.aload_n 0, 1) := by decide +kernel
theorem dX6_copy_106 : decode cX6_copy 106 = .ok (.iconst 2, 1) := by decide +kernel
theorem dX6_copy_107 : decode cX6_copy 107 = .ok (.invokevirtual 76, 3) := by decide +kernel
theorem dX6_copy_110 : decode cX6_copy 110 = .ok (.ireturn, 1) := by decide +kernel
theorem dX6_copy_111 : decode cX6_copy 111 = .ok (.aload_n 0, 1) := by decide +kernel
theorem dX6_copy_112 : decode cX6_copy 112 = .ok (.getfield 11, 3) := by decide +kernel
theorem dX6_copy_115 : decode cX6_copy 115 = .ok (.iload_n 3, 1) := by decide +kernel
theorem dX6_copy_116 : decode cX6_copy 116 = .ok (.aaload, 1) := by decide +kernel
theorem dX6_copy_117 : decode cX6_copy 117 = .ok (.aload_n 0, 1) := by decide +kernel
theorem dX6_copy_118 : decode cX6_copy 118 = .ok (.getfield 11, 3) := by decide +kernel
theorem dX6_copy_121 : decode cX6_copy 121 = .ok (.iload_n 1, 1) := by decide +kernel
theorem dX6_copy_122 : decode cX6_copy 122 = .ok (.aaload, 1) := by decide +kernel
theorem dX6_copy_123 : decode cX6_copy 123 = .ok (.iload_n 2, 1) := by decide +kernel
theorem dX6_copy_124 : decode cX6_copy 124 = .ok (.iload 4, 2) := by decide +kernel
theorem dX6_copy_126 : decode cX6_copy 126 = .ok (.iload 5, 2) := by decide +kernel
theorem dX6_copy_128 : decode cX6_copy 128 = .ok (.invokevirtual 106, 3) := by decide +kernel
theorem dX6_copy_131 : decode cX6_copy 131 = .ok (.aload_n 0, 1) := by decide +kernel
theorem dX6_copy_132 : decode cX6_copy 132 = .ok (.iload 5, 2) := by decide +kernel
theorem dX6_copy_134 : decode cX6_copy 134 = .ok (.invokevirtual 84, 3) := by decide +kernel
theorem dX6_copy_137 : decode cX6_copy 137 = .ok (.ireturn, 1) := by decide +kernel
theorem dX6_drop_0 : decode cX6_drop 0 = .ok (.iload_n 1, 1) := by decide +kernel
theorem dX6_drop_1 : decode cX6_drop 1 = .ok (.invokestatic 67, 3) := by decide +kernel
theorem dX6_drop_4 : decode cX6_drop 4 = .ok (.ifCond .ne 6, 3) := by decide +kernel
theorem dX6_drop_7 : decode cX6_drop 7 = .ok (.ldc 75, 2) := by decide +kernel
theorem dX6_drop_9 : decode cX6_drop 9 = .ok (.ireturn, 1) := by decide +kernel
theorem dX6_drop_10 : decode cX6_drop 10 = .ok (.aload_n 0, 1) := by decide +kernel
theorem dX6_drop_11 : decode cX6_drop 11 = .ok (.getfield 11, 3) := by decide +kernel
theorem dX6_drop_14 : decode cX6_drop 14 = .ok (.iload_n 1, 1) := by decide +kernel
theorem dX6_drop_15 : decode cX6_drop 15 = .ok (.aaload, 1) := by decide +kernel
theorem dX6_drop_16 : decode cX6_drop 16 = .ok (.invokevirtual 87, 3) := by decide +kernel
theorem dX6_drop_19 : decode cX6_drop 19 = .ok (.ifCond .eq 9, 3) := by decide +kernel
theorem dX6_drop_22 : decode cX6_drop 22 = .ok (.aload_n 0, 1) := by decide +kernel
theorem dX6_drop_23 : decode cX6_drop 23 = .ok (.iconst 1, 1) := by decide +kernel
theorem dX6_drop_24 : decode cX6_drop 24 = .ok (.invokevirtual 76, 3) := by decide +kernel
theorem dX6_drop_27 : decode cX6_drop 27 = .ok (.ireturn, 1) := by decide +kernel
theorem dX6_drop_28 : decode cX6_drop 28 = .ok (.aload_n 0, 1) := by decide +kernel
theorem dX6_drop_29 : decode cX6_drop 29 = .ok (.getfield 11, 3) := by decide +kernel
theorem dX6_drop_32 : decode cX6_drop 32 = .ok (.iload_n 1, 1) := by decide +kernel
theorem dX6_drop_33 : decode cX6_drop 33 = .ok (.aaload, 1) := by decide +kernel
theorem dX6_drop_34 : decode cX6_drop 34 = .ok (.invokevirtual 91, 3) := by decide +kernel
theorem dX6_drop_37 : decode cX6_drop 37 = .ok (.istore_n 2, 1) := by decide +kernel
theorem dX6_drop_38 : decode cX6_drop 38 = .ok (.aload_n 0, 1) := by decide +kernel
theorem dX6_drop_39 : decode cX6_drop 39 = .ok (.getfield 11, 3) := by decide +kernel
theorem dX6_drop_42 : decode cX6_drop 42 = .ok (.iload_n 1, 1) := by decide +kernel
theorem dX6_drop_43 : decode cX6_drop 43 = .ok (.aaload, 1) := by decide +kernel
theorem dX6_drop_44 : decode cX6_drop 44 = .ok (.invokevirtual 110, 3) := by decide +kernel
theorem dX6_drop_47 : decode cX6_drop 47 = .ok (.aload_n 0, 1) := by decide +kernel
theorem dX6_drop_48 : decode cX6_drop 48 = .ok (.iload_n 2, 1) := by decide +kernel
theorem dX6_drop_49 : decode cX6_drop 49 = .ok (.invokevirtual 84, 3) := by decide +kernel
theorem dX6_drop_52 : decode cX6_drop 52 = .ok (.ireturn, 1) := by decide +kernel
theorem dX6_feed_0 : decode cX6_feed 0 = .ok (.iload_n 1, 1) := by decide +kernel
theorem dX6_feed_1 : decode cX6_feed 1 = .ok (.iconst 0, 1) := by decide +kernel
theorem dX6_feed_2 : decode cX6_feed 2 = .ok (.sipush 255, 3) := by decide +kernel
theorem dX6_feed_5 : decode cX6_feed 5 = .ok (.invokestatic 71, 3) := by decide +kernel
theorem dX6_feed_8 : decode cX6_feed 8 = .ok (.ifCond .ne 6, 3) := by decide +kernel
theorem dX6_feed_11 : decode cX6_feed 11 = .ok (.ldc 75, 2) := by decide +kernel
theorem dX6_feed_13 : decode cX6_feed 13 = .ok (.ireturn, 1) := by decide +kernel
theorem dX6_feed_14 : decode cX6_feed 14 = .ok (.aload_n 0, 1) := by decide +kernel
theorem dX6_feed_15 : decode cX6_feed 15 = .ok (.getfield 18, 3) := by decide +kernel
theorem dX6_feed_18 : decode cX6_feed 18 = .ok (.iload_n 1, 1) := by decide +kernel
theorem dX6_feed_19 : decode cX6_feed 19 = .ok (.invokevirtual 113, 3) := by decide +kernel
theorem dX6_feed_22 : decode cX6_feed 22 = .ok (.ifCond .eq 13, 3) := by decide +kernel
theorem dX6_feed_25 : decode cX6_feed 25 = .ok (.aload_n 0, 1) := by decide +kernel
theorem dX6_feed_26 : decode cX6_feed 26 = .ok (.getfield 18, 3) := by decide +kernel
theorem dX6_feed_29 : decode cX6_feed 29 = .ok (.invokevirtual 116, 3) := by decide +kernel
theorem dX6_feed_32 : decode cX6_feed 32 = .ok (.goto 5, 3) := by decide +kernel
theorem dX6_feed_35 : decode cX6_feed 35 = .ok (.ldc 117, 2) := by decide +kernel
theorem dX6_feed_37 : decode cX6_feed 37 = .ok (.ireturn, 1) := by decide +kernel
theorem dX6_weave_0 : decode cX6_weave 0 = .ok (.aload_n 0, 1) := by decide +kernel
theorem dX6_weave_1 : decode cX6_weave 1 = .ok (.getfield 18, 3) := by decide +kernel
theorem dX6_weave_4 : decode cX6_weave 4 = .ok (.aload_n 0, 1) := by decide +kernel
theorem dX6_weave_5 : decode cX6_weave 5 = .ok (.getfield 29, 3) := by decide +kernel
theorem dX6_weave_8 : decode cX6_weave 8 = .ok (.invokevirtual 118, 3) := by decide +kernel
theorem dX6_weave_11 : decode cX6_weave 11 = .ok (.istore_n 1, 1) := by decide +kernel
theorem dX6_weave_12 : decode cX6_weave 12 = .ok (.iload_n 1, 1) := by decide +kernel
theorem dX6_weave_13 : decode cX6_weave 13 = .ok (.ifCond .eq 19, 3) := by decide +kernel
theorem dX6_weave_16 : decode cX6_weave 16 = .ok (.aload_n 0, 1) := by decide +kernel
theorem dX6_weave_17 : decode cX6_weave 17 = .ok (.iload_n 1, 1) := by decide +kernel
theorem dX6_weave_18 : decode cX6_weave 18 = .ok (.putfield 59, 3) := by decide +kernel
theorem dX6_weave_21 : decode cX6_weave 21 = .ok (.ldc 122, 2) := by decide +kernel
theorem dX6_weave_23 : decode cX6_weave 23 = .ok (.aload_n 0, 1) := by decide +kernel
theorem dX6_weave_24 : decode cX6_weave 24 = .ok (.getfield 18, 3) := by decide +kernel
theorem dX6_weave_27 : decode cX6_weave 27 = .ok (.invokevirtual 123, 3) := by decide +kernel
theorem dX6_weave_30 : decode cX6_weave 30 = .ok (.isub, 1) := by decide +kernel
theorem dX6_weave_31 : decode cX6_weave 31 = .ok (.ireturn, 1) := by decide +kernel
theorem dX6_weave_32 : decode cX6_weave 32 = .ok (.aload_n 0, 1) := by decide +kernel
theorem dX6_weave_33 : decode cX6_weave 33 = .ok (.getfield 25, 3) := by decide +kernel
theorem dX6_weave_36 : decode cX6_weave 36 = .ok (.aload_n 0, 1) := by decide +kernel
theorem dX6_weave_37 : decode cX6_weave 37 = .ok (.getfield 29, 3) := by decide +kernel
theorem dX6_weave_40 : decode cX6_weave 40 = .ok (.invokevirtual 126, 3) := by decide +kernel
theorem dX6_weave_43 : decode cX6_weave 43 = .ok (.aload_n 0, 1) := by decide +kernel
theorem dX6_weave_44 : decode cX6_weave 44 = .ok (.getfield 39, 3) := by decide +kernel
theorem dX6_weave_47 : decode cX6_weave 47 = .ok (.invokevirtual 128, 3) := by decide +kernel
theorem dX6_weave_50 : decode cX6_weave 50 = .ok (.aload_n 0, 1) := by decide +kernel
theorem dX6_weave_51 : decode cX6_weave 51 = .ok (.getfield 25, 3) := by decide +kernel
theorem dX6_weave_54 : decode cX6_weave 54 = .ok (.invokevirtual 131, 3) := by decide +kernel
theorem dX6_weave_57 : decode cX6_weave 57 = .ok (.ireturn, 1) := by decide +kernel
theorem dX6_fault_0 : decode cX6_fault 0 = .ok (.aload_n 0, 1) := by decide +kernel
theorem dX6_fault_1 : decode cX6_fault 1 = .ok (.getfield 59, 3) := by decide +kernel
theorem dX6_fault_4 : decode cX6_fault 4 = .ok (.ireturn, 1) := by decide +kernel
theorem dX6_change_0 : decode cX6_change 0 = .ok (.aload_n 0, 1) := by decide +kernel
theorem dX6_change_1 : decode cX6_change 1 = .ok (.iload_n 1, 1) := by decide +kernel
theorem dX6_change_2 : decode cX6_change 2 = .ok (.invokevirtual 134, 3) := by decide +kernel
theorem dX6_change_5 : decode cX6_change 5 = .ok (.ifCond .ne 6, 3) := by decide +kernel
theorem dX6_change_8 : decode cX6_change 8 = .ok (.ldc 75, 2) := by decide +kernel
theorem dX6_change_10 : decode cX6_change 10 = .ok (.ireturn, 1) := by decide +kernel
theorem dX6_change_11 : decode cX6_change 11 = .ok (.iload_n 2, 1) := by decide +kernel
theorem dX6_change_12 : decode cX6_change 12 = .ok (.ifCond .ne 21, 3) := by decide +kernel
theorem dX6_change_15 : decode cX6_change 15 = .ok (.iload_n 3, 1) := by decide +kernel
theorem dX6_change_16 : decode cX6_change 16 = .ok (.iconst 1, 1) := by decide +kernel
theorem dX6_change_17 : decode cX6_change 17 = .ok (.bipush 99, 2) := by decide +kernel
theorem dX6_change_19 : decode cX6_change 19 = .ok (.invokestatic 71, 3) := by decide +kernel
theorem dX6_change_22 : decode cX6_change 22 = .ok (.ifCond .eq 11, 3) := by decide +kernel
theorem dX6_change_25 : decode cX6_change 25 = .ok (.aload_n 0, 1) := by decide +kernel
theorem dX6_change_26 : decode cX6_change 26 = .ok (.iload_n 1, 1) := by decide +kernel
theorem dX6_change_27 : decode cX6_change 27 = .ok (.iconst 0, 1) := by decide +kernel
theorem dX6_change_28 : decode cX6_change 28 = .ok (.iload_n 3, 1) := by decide +kernel
theorem dX6_change_29 : decode cX6_change 29 = .ok (.invokevirtual 137, 3) := by decide +kernel
theorem dX6_change_32 : decode cX6_change 32 = .ok (.ireturn, 1) := by decide +kernel
theorem dX6_change_33 : decode cX6_change 33 = .ok (.iload_n 2, 1) := by decide +kernel
theorem dX6_change_34 : decode cX6_change 34 = .ok (.iconst 1, 1) := by decide +kernel
theorem dX6_change_35 : decode cX6_change 35 = .ok (.if_icmp .ne 21, 3) := by decide +kernel
theorem dX6_change_38 : decode cX6_change 38 = .ok (.iload_n 3, 1) := by decide +kernel
theorem dX6_change_39 : decode cX6_change 39 = .ok (.iconst 0, 1) := by decide +kernel
theorem dX6_change_40 : decode cX6_change 40 = .ok (.bipush 10, 2) := by decide +kernel
theorem dX6_change_42 : decode cX6_change 42 = .ok (.invokestatic 71, 3) := by decide +kernel
theorem dX6_change_45 : decode cX6_change 45 = .ok (.ifCond .eq 11, 3) := by decide +kernel
theorem dX6_change_48 : decode cX6_change 48 = .ok (.aload_n 0, 1) := by decide +kernel
theorem dX6_change_49 : decode cX6_change 49 = .ok (.iload_n 1, 1) := by decide +kernel
theorem dX6_change_50 : decode cX6_change 50 = .ok (.iconst 3, 1) := by decide +kernel
theorem dX6_change_51 : decode cX6_change 51 = .ok (.iload_n 3, 1) := by decide +kernel
theorem dX6_change_52 : decode cX6_change 52 = .ok (.invokevirtual 137, 3) := by decide +kernel
theorem dX6_change_55 : decode cX6_change 55 = .ok (.ireturn, 1) := by decide +kernel
theorem dX6_change_56 : decode cX6_change 56 = .ok (.iload_n 2, 1) := by decide +kernel
theorem dX6_change_57 : decode cX6_change 57 = .ok (.iconst 2, 1) := by decide +kernel
theorem dX6_change_58 : decode cX6_change 58 = .ok (.if_icmp .ne 21, 3) := by decide +kernel
theorem dX6_change_61 : decode cX6_change 61 = .ok (.iload_n 3, 1) := by decide +kernel
theorem dX6_change_62 : decode cX6_change 62 = .ok (.iconst 0, 1) := by decide +kernel
theorem dX6_change_63 : decode cX6_change 63 = .ok (.bipush 6, 2) := by decide +kernel
theorem dX6_change_65 : decode cX6_change 65 = .ok (.invokestatic 71, 3) := by decide +kernel
theorem dX6_change_68 : decode cX6_change 68 = .ok (.ifCond .eq 11, 3) := by decide +kernel
theorem dX6_change_71 : decode cX6_change 71 = .ok (.aload_n 0, 1) := by decide +kernel
theorem dX6_change_72 : decode cX6_change 72 = .ok (.iload_n 1, 1) := by decide +kernel
theorem dX6_change_73 : decode cX6_change 73 = .ok (.iconst 4, 1) := by decide +kernel
theorem dX6_change_74 : decode cX6_change 74 = .ok (.iload_n 3, 1) := by decide +kernel
theorem dX6_change_75 : decode cX6_change 75 = .ok (.invokevirtual 137, 3) := by decide +kernel
theorem dX6_change_78 : decode cX6_change 78 = .ok (.ireturn, 1) := by decide +kernel
theorem dX6_change_79 : decode cX6_change 79 = .ok (.ldc 75, 2) := by decide +kernel
theorem dX6_change_81 : decode cX6_change 81 = .ok (.ireturn, 1) := by decide +kernel
theorem dX6_become_0 : decode cX6_become 0 = .ok (.aload_n 0, 1) := by decide +kernel
theorem dX6_become_1 : decode cX6_become 1 = .ok (.iload_n 1, 1) := by decide +kernel
theorem dX6_become_2 : decode cX6_become 2 = .ok (.invokevirtual 134, 3) := by decide +kernel
theorem dX6_become_5 : decode cX6_become 5 = .ok (.ifCond .eq 12, 3) := by decide +kernel
theorem dX6_become_8 : decode cX6_become 8 = .ok (.iload_n 2, 1) := by decide +kernel
theorem dX6_become_9 : decode cX6_become 9 = .ok (.iconst 1, 1) := by decide +kernel
theorem dX6_become_10 : decode cX6_become 10 = .ok (.iconst 5, 1) := by decide +kernel
theorem dX6_become_11 : decode cX6_become 11 = .ok (.invokestatic 71, 3) := by decide +kernel
theorem dX6_become_14 : decode cX6_become 14 = .ok (.ifCond .ne 6, 3) := by decide +kernel
theorem dX6_become_17 : decode cX6_become 17 = .ok (.ldc 75, 2) := by decide +kernel
theorem dX6_become_19 : decode cX6_become 19 = .ok (.ireturn, 1) := by decide +kernel
theorem dX6_become_20 : decode cX6_become 20 = .ok (.aload_n 0, 1) := by decide +kernel
theorem dX6_become_21 : decode cX6_become 21 = .ok (.getfield 25, 3) := by decide +kernel
theorem dX6_become_24 : decode cX6_become 24 = .ok (.iload_n 1, 1) := by decide +kernel
theorem dX6_become_25 : decode cX6_become 25 = .ok (.iconst 5, 1) := by decide +kernel
theorem dX6_become_26 : decode cX6_become 26 = .ok (.invokevirtual 141, 3) := by decide +kernel
theorem dX6_become_29 : decode cX6_become 29 = .ok (.iload_n 2, 1) := by decide +kernel
theorem dX6_become_30 : decode cX6_become 30 = .ok (.if_icmp .ne 6, 3) := by decide +kernel
theorem dX6_become_33 : decode cX6_become 33 = .ok (.ldc 144, 2) := by decide +kernel
theorem dX6_become_35 : decode cX6_become 35 = .ok (.ireturn, 1) := by decide +kernel
theorem dX6_become_36 : decode cX6_become 36 = .ok (.aload_n 0, 1) := by decide +kernel
theorem dX6_become_37 : decode cX6_become 37 = .ok (.iload_n 1, 1) := by decide +kernel
theorem dX6_become_38 : decode cX6_become 38 = .ok (.iconst 5, 1) := by decide +kernel
theorem dX6_become_39 : decode cX6_become 39 = .ok (.iload_n 2, 1) := by decide +kernel
theorem dX6_become_40 : decode cX6_become 40 = .ok (.invokevirtual 137, 3) := by decide +kernel
theorem dX6_become_43 : decode cX6_become 43 = .ok (.ireturn, 1) := by decide +kernel
theorem dX6_swap_0 : decode cX6_swap 0 = .ok (.aload_n 0, 1) := by decide +kernel
theorem dX6_swap_1 : decode cX6_swap 1 = .ok (.iload_n 1, 1) := by decide +kernel
theorem dX6_swap_2 : decode cX6_swap 2 = .ok (.invokevirtual 134, 3) := by decide +kernel
theorem dX6_swap_5 : decode cX6_swap 5 = .ok (.ifCond .eq 11, 3) := by decide +kernel
theorem dX6_swap_8 : decode cX6_swap 8 = .ok (.aload_n 0, 1) := by decide +kernel
theorem dX6_swap_9 : decode cX6_swap 9 = .ok (.iload_n 2, 1) := by decide +kernel
theorem dX6_swap_10 : decode cX6_swap 10 = .ok (.invokevirtual 134, 3) := by decide +kernel
theorem dX6_swap_13 : decode cX6_swap 13 = .ok (.ifCond .ne 6, 3) := by decide +kernel
theorem dX6_swap_16 : decode cX6_swap 16 = .ok (.ldc 75, 2) := by decide +kernel
theorem dX6_swap_18 : decode cX6_swap 18 = .ok (.ireturn, 1) := by decide +kernel
theorem dX6_swap_19 : decode cX6_swap 19 = .ok (.iload_n 1, 1) := by decide +kernel
theorem dX6_swap_20 : decode cX6_swap 20 = .ok (.iload_n 2, 1) := by decide +kernel
theorem dX6_swap_21 : decode cX6_swap 21 = .ok (.if_icmp .ne 6, 3) := by decide +kernel
theorem dX6_swap_24 : decode cX6_swap 24 = .ok (.ldc 144, 2) := by decide +kernel
theorem dX6_swap_26 : decode cX6_swap 26 = .ok (.ireturn, 1) := by decide +kernel
theorem dX6_swap_27 : decode cX6_swap 27 = .ok (.aload_n 0, 1) := by decide +kernel
theorem dX6_swap_28 : decode cX6_swap 28 = .ok (.getfield 39, 3) := by decide +kernel
theorem dX6_swap_31 : decode cX6_swap 31 = .ok (.iload_n 1, 1) := by decide +kernel
theorem dX6_swap_32 : decode cX6_swap 32 = .ok (.iload_n 2, 1) := by decide +kernel
theorem dX6_swap_33 : decode cX6_swap 33 = .ok (.invokevirtual 145, 3) := by decide +kernel
theorem dX6_swap_36 : decode cX6_swap 36 = .ok (.aload_n 0, 1) := by decide +kernel
theorem dX6_swap_37 : decode cX6_swap 37 = .ok (.getfield 25, 3) := by decide +kernel
theorem dX6_swap_40 : decode cX6_swap 40 = .ok (.iload_n 1, 1) := by decide +kernel
theorem dX6_swap_41 : decode cX6_swap 41 = .ok (.iload_n 2, 1) := by decide +kernel
theorem dX6_swap_42 : decode cX6_swap 42 = .ok (.invokevirtual 148, 3) := by decide +kernel
theorem dX6_swap_45 : decode cX6_swap 45 = .ok (.iload_n 1, 1) := by decide +kernel
theorem dX6_swap_46 : decode cX6_swap 46 = .ok (.iload_n 2, 1) := by decide +kernel
theorem dX6_swap_47 : decode cX6_swap 47 = .ok (.isub, 1) := by decide +kernel
theorem dX6_swap_48 : decode cX6_swap 48 = .ok (.invokestatic 151, 3) := by decide +kernel
theorem dX6_swap_51 : decode cX6_swap 51 = .ok (.iconst 1, 1) := by decide +kernel
theorem dX6_swap_52 : decode cX6_swap 52 = .ok (.iadd, 1) := by decide +kernel
theorem dX6_swap_53 : decode cX6_swap 53 = .ok (.ireturn, 1) := by decide +kernel
theorem dX6_state_0 : decode cX6_state 0 = .ok (.aload_n 0, 1) := by decide +kernel
theorem dX6_state_1 : decode cX6_state 1 = .ok (.iload_n 1, 1) := by decide +kernel
theorem dX6_state_2 : decode cX6_state 2 = .ok (.invokevirtual 156, 3) := by decide +kernel
theorem dX6_state_5 : decode cX6_state 5 = .ok (.ifCond .eq 29, 3) := by decide +kernel
theorem dX6_state_8 : decode cX6_state 8 = .ok (.iload_n 2, 1) := by decide +kernel
theorem dX6_state_9 : decode cX6_state 9 = .ok (.ifCond .lt 25, 3) := by decide +kernel
theorem dX6_state_12 : decode cX6_state 12 = .ok (.iload_n 2, 1) := by decide +kernel
theorem dX6_state_13 : decode cX6_state 13 = .ok (.aload_n 0, 1) := by decide +kernel
theorem dX6_state_14 : decode cX6_state 14 = .ok (.getfield 25, 3) := by decide +kernel
theorem dX6_state_17 : decode cX6_state 17 = .ok (.iload_n 1, 1) := by decide +kernel
theorem dX6_state_18 : decode cX6_state 18 = .ok (.invokevirtual 159, 3) := by decide +kernel
theorem dX6_state_21 : decode cX6_state 21 = .ok (.if_icmp .ge 13, 3) := by decide +kernel
theorem dX6_state_24 : decode cX6_state 24 = .ok (.aload_n 0, 1) := by decide +kernel
theorem dX6_state_25 : decode cX6_state 25 = .ok (.iload_n 3, 1) := by decide +kernel
theorem dX6_state_26 : decode cX6_state 26 = .ok (.iload 4, 2) := by decide +kernel
theorem dX6_state_28 : decode cX6_state 28 = .ok (.invokevirtual 162, 3) := by decide +kernel
theorem dX6_state_31 : decode cX6_state 31 = .ok (.ifCond .ne 6, 3) := by decide +kernel
theorem dX6_state_34 : decode cX6_state 34 = .ok (.ldc 75, 2) := by decide +kernel
theorem dX6_state_36 : decode cX6_state 36 = .ok (.ireturn, 1) := by decide +kernel
theorem dX6_state_37 : decode cX6_state 37 = .ok (.aload_n 0, 1) := by decide +kernel
theorem dX6_state_38 : decode cX6_state 38 = .ok (.getfield 25, 3) := by decide +kernel
theorem dX6_state_41 : decode cX6_state 41 = .ok (.iload_n 1, 1) := by decide +kernel
theorem dX6_state_42 : decode cX6_state 42 = .ok (.iload_n 2, 1) := by decide +kernel
theorem dX6_state_43 : decode cX6_state 43 = .ok (.invokevirtual 165, 3) := by decide +kernel
theorem dX6_state_46 : decode cX6_state 46 = .ok (.istore 5, 2) := by decide +kernel
theorem dX6_state_48 : decode cX6_state 48 = .ok (.aload_n 0, 1) := by decide +kernel
theorem dX6_state_49 : decode cX6_state 49 = .ok (.getfield 39, 3) := by decide +kernel
theorem dX6_state_52 : decode cX6_state 52 = .ok (.iload_n 1, 1) := by decide +kernel
theorem dX6_state_53 : decode cX6_state 53 = .ok (.iload_n 2, 1) := by decide +kernel
theorem dX6_state_54 : decode cX6_state 54 = .ok (.iload 5, 2) := by decide +kernel
theorem dX6_state_56 : decode cX6_state 56 = .ok (.aload_n 0, 1) := by decide +kernel
theorem dX6_state_57 : decode cX6_state 57 = .ok (.getfield 25, 3) := by decide +kernel
theorem dX6_state_60 : decode cX6_state 60 = .ok (.iload_n 1, 1) := by decide +kernel
theorem dX6_state_61 : decode cX6_state 61 = .ok (.iload_n 2, 1) := by decide +kernel
theorem dX6_state_62 : decode cX6_state 62 = .ok (.invokevirtual 168, 3) := by decide +kernel
theorem dX6_state_65 : decode cX6_state 65 = .ok (.invokevirtual 171, 3) := by decide +kernel
theorem dX6_state_68 : decode cX6_state 68 = .ok (.aload_n 0, 1) := by decide +kernel
theorem dX6_state_69 : decode cX6_state 69 = .ok (.getfield 25, 3) := by decide +kernel
theorem dX6_state_72 : decode cX6_state 72 = .ok (.iload_n 1, 1) := by decide +kernel
theorem dX6_state_73 : decode cX6_state 73 = .ok (.iload_n 2, 1) := by decide +kernel
theorem dX6_state_74 : decode cX6_state 74 = .ok (.iload_n 3, 1) := by decide +kernel
theorem dX6_state_75 : decode cX6_state 75 = .ok (.iload 4, 2) := by decide +kernel
theorem dX6_state_77 : decode cX6_state 77 = .ok (.invokevirtual 175, 3) := by decide +kernel
theorem dX6_state_80 : decode cX6_state 80 = .ok (.iload 5, 2) := by decide +kernel
theorem dX6_state_82 : decode cX6_state 82 = .ok (.ireturn, 1) := by decide +kernel
theorem dX6_belong_0 : decode cX6_belong 0 = .ok (.aload_n 0, 1) := by decide +kernel
theorem dX6_belong_1 : decode cX6_belong 1 = .ok (.iload_n 1, 1) := by decide +kernel
theorem dX6_belong_2 : decode cX6_belong 2 = .ok (.invokevirtual 156, 3) := by decide +kernel
theorem dX6_belong_5 : decode cX6_belong 5 = .ok (.ifCond .eq 12, 3) := by decide +kernel
theorem dX6_belong_8 : decode cX6_belong 8 = .ok (.iload_n 2, 1) := by decide +kernel
theorem dX6_belong_9 : decode cX6_belong 9 = .ok (.iconst 0, 1) := by decide +kernel
theorem dX6_belong_10 : decode cX6_belong 10 = .ok (.iconst 3, 1) := by decide +kernel
theorem dX6_belong_11 : decode cX6_belong 11 = .ok (.invokestatic 71, 3) := by decide +kernel
theorem dX6_belong_14 : decode cX6_belong 14 = .ok (.ifCond .ne 6, 3) := by decide +kernel
theorem dX6_belong_17 : decode cX6_belong 17 = .ok (.ldc 75, 2) := by decide +kernel
theorem dX6_belong_19 : decode cX6_belong 19 = .ok (.ireturn, 1) := by decide +kernel
theorem dX6_belong_20 : decode cX6_belong 20 = .ok (.aload_n 0, 1) := by decide +kernel
theorem dX6_belong_21 : decode cX6_belong 21 = .ok (.getfield 25, 3) := by decide +kernel
theorem dX6_belong_24 : decode cX6_belong 24 = .ok (.iload_n 1, 1) := by decide +kernel
theorem dX6_belong_25 : decode cX6_belong 25 = .ok (.invokevirtual 178, 3) := by decide +kernel
theorem dX6_belong_28 : decode cX6_belong 28 = .ok (.istore_n 3, 1) := by decide +kernel
theorem dX6_belong_29 : decode cX6_belong 29 = .ok (.iload_n 3, 1) := by decide +kernel
theorem dX6_belong_30 : decode cX6_belong 30 = .ok (.iload_n 2, 1) := by decide +kernel
theorem dX6_belong_31 : decode cX6_belong 31 = .ok (.if_icmp .ne 6, 3) := by decide +kernel
theorem dX6_belong_34 : decode cX6_belong 34 = .ok (.ldc 144, 2) := by decide +kernel
theorem dX6_belong_36 : decode cX6_belong 36 = .ok (.ireturn, 1) := by decide +kernel
theorem dX6_belong_37 : decode cX6_belong 37 = .ok (.aload_n 0, 1) := by decide +kernel
theorem dX6_belong_38 : decode cX6_belong 38 = .ok (.getfield 39, 3) := by decide +kernel
theorem dX6_belong_41 : decode cX6_belong 41 = .ok (.iload_n 1, 1) := by decide +kernel
theorem dX6_belong_42 : decode cX6_belong 42 = .ok (.iload_n 3, 1) := by decide +kernel
theorem dX6_belong_43 : decode cX6_belong 43 = .ok (.invokevirtual 181, 3) := by decide +kernel
theorem dX6_belong_46 : decode cX6_belong 46 = .ok (.aload_n 0, 1) := by decide +kernel
theorem dX6_belong_47 : decode cX6_belong 47 = .ok (.getfield 25, 3) := by decide +kernel
theorem dX6_belong_50 : decode cX6_belong 50 = .ok (.iload_n 1, 1) := by decide +kernel
theorem dX6_belong_51 : decode cX6_belong 51 = .ok (.iload_n 2, 1) := by decide +kernel
theorem dX6_belong_52 : decode cX6_belong 52 = .ok (.invokevirtual 184, 3) := by decide +kernel
theorem dX6_belong_55 : decode cX6_belong 55 = .ok (.iload_n 3, 1) := by decide +kernel
theorem dX6_belong_56 : decode cX6_belong 56 = .ok (.ireturn, 1) := by decide +kernel
theorem dX6_undo_0 : decode cX6_undo 0 = .ok (.aload_n 0, 1) := by decide +kernel
theorem dX6_undo_1 : decode cX6_undo 1 = .ok (.getfield 39, 3) := by decide +kernel
theorem dX6_undo_4 : decode cX6_undo 4 = .ok (.invokevirtual 187, 3) := by decide +kernel
theorem dX6_undo_7 : decode cX6_undo 7 = .ok (.ifCond .ne 6, 3) := by decide +kernel
theorem dX6_undo_10 : decode cX6_undo 10 = .ok (.ldc 144, 2) := by decide +kernel
theorem dX6_undo_12 : decode cX6_undo 12 = .ok (.ireturn, 1) := by decide +kernel
theorem dX6_undo_13 : decode cX6_undo 13 = .ok (.aload_n 0, 1) := by decide +kernel
theorem dX6_undo_14 : decode cX6_undo 14 = .ok (.getfield 39, 3) := by decide +kernel
theorem dX6_undo_17 : decode cX6_undo 17 = .ok (.aload_n 0, 1) := by decide +kernel
theorem dX6_undo_18 : decode cX6_undo 18 = .ok (.getfield 25, 3) := by decide +kernel
theorem dX6_undo_21 : decode cX6_undo 21 = .ok (.invokevirtual 188, 3) := by decide +kernel
theorem dX6_undo_24 : decode cX6_undo 24 = .ok (.aload_n 0, 1) := by decide +kernel
theorem dX6_undo_25 : decode cX6_undo 25 = .ok (.getfield 39, 3) := by decide +kernel
theorem dX6_undo_28 : decode cX6_undo 28 = .ok (.invokevirtual 187, 3) := by decide +kernel
theorem dX6_undo_31 : decode cX6_undo 31 = .ok (.ireturn, 1) := by decide +kernel
theorem dX6_method_0 : decode cX6_method 0 = .ok (.aload_n 0, 1) := by decide +kernel
theorem dX6_method_1 : decode cX6_method 1 = .ok (.iload_n 1, 1) := by decide +kernel
theorem dX6_method_2 : decode cX6_method 2 = .ok (.invokevirtual 156, 3) := by decide +kernel
theorem dX6_method_5 : decode cX6_method 5 = .ok (.ifCond .ne 6, 3) := by decide +kernel
theorem dX6_method_8 : decode cX6_method 8 = .ok (.ldc 75, 2) := by decide +kernel
theorem dX6_method_10 : decode cX6_method 10 = .ok (.ireturn, 1) := by decide +kernel
theorem dX6_method_11 : decode cX6_method 11 = .ok (.iload_n 2, 1) := by decide +kernel
theorem dX6_method_12 : decode cX6_method 12 = .ok (.tableswitch 55 0 2 #[28, 37, 46], 28) := by decide +kernel
theorem dX6_method_40 : decode cX6_method 40 = .ok (.aload_n 0, 1) := by decide +kernel
theorem dX6_method_41 : decode cX6_method 41 = .ok (.getfield 25, 3) := by decide +kernel
theorem dX6_method_44 : decode cX6_method 44 = .ok (.iload_n 1, 1) := by decide +kernel
theorem dX6_method_45 : decode cX6_method 45 = .ok (.invokevirtual 178, 3) := by decide +kernel
theorem dX6_method_48 : decode cX6_method 48 = .ok (.ireturn, 1) := by decide +kernel
theorem dX6_method_49 : decode cX6_method 49 = .ok (.aload_n 0, 1) := by decide +kernel
theorem dX6_method_50 : decode cX6_method 50 = .ok (.getfield 25, 3) := by decide +kernel
theorem dX6_method_53 : decode cX6_method 53 = .ok (.iload_n 1, 1) := by decide +kernel
theorem dX6_method_54 : decode cX6_method 54 = .ok (.invokevirtual 159, 3) := by decide +kernel
theorem dX6_method_57 : decode cX6_method 57 = .ok (.ireturn, 1) := by decide +kernel
theorem dX6_method_58 : decode cX6_method 58 = .ok (.aload_n 0, 1) := by decide +kernel
theorem dX6_method_59 : decode cX6_method 59 = .ok (.getfield 25, 3) := by decide +kernel
theorem dX6_method_62 : decode cX6_method 62 = .ok (.iload_n 1, 1) := by decide +kernel
theorem dX6_method_63 : decode cX6_method 63 = .ok (.invokevirtual 191, 3) := by decide +kernel
theorem dX6_method_66 : decode cX6_method 66 = .ok (.ireturn, 1) := by decide +kernel
theorem dX6_method_67 : decode cX6_method 67 = .ok (.aload_n 0, 1) := by decide +kernel
theorem dX6_method_68 : decode cX6_method 68 = .ok (.iload_n 1, 1) := by decide +kernel
theorem dX6_method_69 : decode cX6_method 69 = .ok (.iload_n 2, 1) := by decide +kernel
theorem dX6_method_70 : decode cX6_method 70 = .ok (.invokevirtual 194, 3) := by decide +kernel
theorem dX6_method_73 : decode cX6_method 73 = .ok (.ireturn, 1) := by decide +kernel
theorem dX6_advice_0 : decode cX6_advice 0 = .ok (.aload_n 0, 1) := by decide +kernel
theorem dX6_advice_1 : decode cX6_advice 1 = .ok (.iload_n 1, 1) := by decide +kernel
theorem dX6_advice_2 : decode cX6_advice 2 = .ok (.invokevirtual 134, 3) := by decide +kernel
theorem dX6_advice_5 : decode cX6_advice 5 = .ok (.ifCond .eq 12, 3) := by decide +kernel
theorem dX6_advice_8 : decode cX6_advice 8 = .ok (.iload_n 2, 1) := by decide +kernel
theorem dX6_advice_9 : decode cX6_advice 9 = .ok (.iconst 0, 1) := by decide +kernel
theorem dX6_advice_10 : decode cX6_advice 10 = .ok (.iconst 4, 1) := by decide +kernel
theorem dX6_advice_11 : decode cX6_advice 11 = .ok (.invokestatic 71, 3) := by decide +kernel
theorem dX6_advice_14 : decode cX6_advice 14 = .ok (.ifCond .ne 6, 3) := by decide +kernel
theorem dX6_advice_17 : decode cX6_advice 17 = .ok (.ldc 75, 2) := by decide +kernel
theorem dX6_advice_19 : decode cX6_advice 19 = .ok (.ireturn, 1) := by decide +kernel
theorem dX6_advice_20 : decode cX6_advice 20 = .ok (.aload_n 0, 1) := by decide +kernel
theorem dX6_advice_21 : decode cX6_advice 21 = .ok (.getfield 25, 3) := by decide +kernel
theorem dX6_advice_24 : decode cX6_advice 24 = .ok (.iload_n 1, 1) := by decide +kernel
theorem dX6_advice_25 : decode cX6_advice 25 = .ok (.iload_n 2, 1) := by decide +kernel
theorem dX6_advice_26 : decode cX6_advice 26 = .ok (.invokevirtual 141, 3) := by decide +kernel
theorem dX6_advice_29 : decode cX6_advice 29 = .ok (.ireturn, 1) := by decide +kernel
theorem dX6_ahead_0 : decode cX6_ahead 0 = .ok (.aload_n 0, 1) := by decide +kernel
theorem dX6_ahead_1 : decode cX6_ahead 1 = .ok (.iload_n 1, 1) := by decide +kernel
theorem dX6_ahead_2 : decode cX6_ahead 2 = .ok (.invokevirtual 156, 3) := by decide +kernel
theorem dX6_ahead_5 : decode cX6_ahead 5 = .ok (.ifCond .eq 11, 3) := by decide +kernel
theorem dX6_ahead_8 : decode cX6_ahead 8 = .ok (.aload_n 0, 1) := by decide +kernel
theorem dX6_ahead_9 : decode cX6_ahead 9 = .ok (.iload_n 2, 1) := by decide +kernel
theorem dX6_ahead_10 : decode cX6_ahead 10 = .ok (.invokevirtual 134, 3) := by decide +kernel
theorem dX6_ahead_13 : decode cX6_ahead 13 = .ok (.ifCond .ne 6, 3) := by decide +kernel
theorem dX6_ahead_16 : decode cX6_ahead 16 = .ok (.ldc 75, 2) := by decide +kernel
theorem dX6_ahead_18 : decode cX6_ahead 18 = .ok (.ireturn, 1) := by decide +kernel
theorem dX6_ahead_19 : decode cX6_ahead 19 = .ok (.aload_n 0, 1) := by decide +kernel
theorem dX6_ahead_20 : decode cX6_ahead 20 = .ok (.getfield 25, 3) := by decide +kernel
theorem dX6_ahead_23 : decode cX6_ahead 23 = .ok (.iload_n 1, 1) := by decide +kernel
theorem dX6_ahead_24 : decode cX6_ahead 24 = .ok (.iload_n 2, 1) := by decide +kernel
theorem dX6_ahead_25 : decode cX6_ahead 25 = .ok (.invokevirtual 197, 3) := by decide +kernel
theorem dX6_ahead_28 : decode cX6_ahead 28 = .ok (.ireturn, 1) := by decide +kernel
theorem dX6_run_0 : decode cX6_run 0 = .ok (.aload_n 0, 1) := by decide +kernel
theorem dX6_run_1 : decode cX6_run 1 = .ok (.iload_n 1, 1) := by decide +kernel
theorem dX6_run_2 : decode cX6_run 2 = .ok (.invokevirtual 156, 3) := by decide +kernel
theorem dX6_run_5 : decode cX6_run 5 = .ok (.ifCond .eq 16, 3) := by decide +kernel
theorem dX6_run_8 : decode cX6_run 8 = .ok (.iload_n 2, 1) := by decide +kernel
theorem dX6_run_9 : decode cX6_run 9 = .ok (.invokestatic 200, 3) := by decide +kernel
theorem dX6_run_12 : decode cX6_run 12 = .ok (.ifCond .eq 9, 3) := by decide +kernel
theorem dX6_run_15 : decode cX6_run 15 = .ok (.iload_n 3, 1) := by decide +kernel
theorem dX6_run_16 : decode cX6_run 16 = .ok (.bipush (-5), 2) := by decide +kernel
theorem dX6_run_18 : decode cX6_run 18 = .ok (.if_icmp .ge 6, 3) := by decide +kernel
theorem dX6_run_21 : decode cX6_run 21 = .ok (.ldc 75, 2) := by decide +kernel
theorem dX6_run_23 : decode cX6_run 23 = .ok (.ireturn, 1) := by decide +kernel
theorem dX6_run_24 : decode cX6_run 24 = .ok (.aload_n 0, 1) := by decide +kernel
theorem dX6_run_25 : decode cX6_run 25 = .ok (.getfield 48, 3) := by decide +kernel
theorem dX6_run_28 : decode cX6_run 28 = .ok (.aload_n 0, 1) := by decide +kernel
theorem dX6_run_29 : decode cX6_run 29 = .ok (.getfield 25, 3) := by decide +kernel
theorem dX6_run_32 : decode cX6_run 32 = .ok (.iload_n 1, 1) := by decide +kernel
theorem dX6_run_33 : decode cX6_run 33 = .ok (.iload_n 2, 1) := by decide +kernel
theorem dX6_run_34 : decode cX6_run 34 = .ok (.invokevirtual 203, 3) := by decide +kernel
theorem dX6_run_37 : decode cX6_run 37 = .ok (.aload_n 0, 1) := by decide +kernel
theorem dX6_run_38 : decode cX6_run 38 = .ok (.getfield 48, 3) := by decide +kernel
theorem dX6_run_41 : decode cX6_run 41 = .ok (.invokevirtual 206, 3) := by decide +kernel
theorem dX6_run_44 : decode cX6_run 44 = .ok (.ifCond .eq 6, 3) := by decide +kernel
theorem dX6_run_47 : decode cX6_run 47 = .ok (.ldc 117, 2) := by decide +kernel
theorem dX6_run_49 : decode cX6_run 49 = .ok (.ireturn, 1) := by decide +kernel
theorem dX6_run_50 : decode cX6_run 50 = .ok (.iload_n 3, 1) := by decide +kernel
theorem dX6_run_51 : decode cX6_run 51 = .ok (.tableswitch 73 (-5) (-1) #[65, 57, 49, 41, 33], 33) := by decide +kernel
theorem dX6_run_84 : decode cX6_run 84 = .ok (.aload_n 0, 1) := by decide +kernel
theorem dX6_run_85 : decode cX6_run 85 = .ok (.getfield 48, 3) := by decide +kernel
theorem dX6_run_88 : decode cX6_run 88 = .ok (.invokevirtual 209, 3) := by decide +kernel
theorem dX6_run_91 : decode cX6_run 91 = .ok (.ireturn, 1) := by decide +kernel
theorem dX6_run_92 : decode cX6_run 92 = .ok (.aload_n 0, 1) := by decide +kernel
theorem dX6_run_93 : decode cX6_run 93 = .ok (.getfield 48, 3) := by decide +kernel
theorem dX6_run_96 : decode cX6_run 96 = .ok (.invokevirtual 210, 3) := by decide +kernel
theorem dX6_run_99 : decode cX6_run 99 = .ok (.ireturn, 1) := by decide +kernel
theorem dX6_run_100 : decode cX6_run 100 = .ok (.aload_n 0, 1) := by decide +kernel
theorem dX6_run_101 : decode cX6_run 101 = .ok (.getfield 48, 3) := by decide +kernel
theorem dX6_run_104 : decode cX6_run 104 = .ok (.invokevirtual 213, 3) := by decide +kernel
theorem dX6_run_107 : decode cX6_run 107 = .ok (.ireturn, 1) := by decide +kernel
theorem dX6_run_108 : decode cX6_run 108 = .ok (.aload_n 0, 1) := by decide +kernel
theorem dX6_run_109 : decode cX6_run 109 = .ok (.getfield 48, 3) := by decide +kernel
theorem dX6_run_112 : decode cX6_run 112 = .ok (.invokevirtual 216, 3) := by decide +kernel
theorem dX6_run_115 : decode cX6_run 115 = .ok (.ireturn, 1) := by decide +kernel
theorem dX6_run_116 : decode cX6_run 116 = .ok (.aload_n 0, 1) := by decide +kernel
theorem dX6_run_117 : decode cX6_run 117 = .ok (.getfield 48, 3) := by decide +kernel
theorem dX6_run_120 : decode cX6_run 120 = .ok (.invokevirtual 219, 3) := by decide +kernel
theorem dX6_run_123 : decode cX6_run 123 = .ok (.ireturn, 1) := by decide +kernel
theorem dX6_run_124 : decode cX6_run 124 = .ok (.aload_n 0, 1) := by decide +kernel
theorem dX6_run_125 : decode cX6_run 125 = .ok (.getfield 48, 3) := by decide +kernel
theorem dX6_run_128 : decode cX6_run 128 = .ok (.iload_n 3, 1) := by decide +kernel
theorem dX6_run_129 : decode cX6_run 129 = .ok (.invokevirtual 222, 3) := by decide +kernel
theorem dX6_run_132 : decode cX6_run 132 = .ok (.ireturn, 1) := by decide +kernel
theorem dX6_least_0 : decode cX6_least 0 = .ok (.aload_n 0, 1) := by decide +kernel
theorem dX6_least_1 : decode cX6_least 1 = .ok (.iload_n 1, 1) := by decide +kernel
theorem dX6_least_2 : decode cX6_least 2 = .ok (.invokevirtual 156, 3) := by decide +kernel
theorem dX6_least_5 : decode cX6_least 5 = .ok (.ifCond .ne 6, 3) := by decide +kernel
theorem dX6_least_8 : decode cX6_least 8 = .ok (.ldc 75, 2) := by decide +kernel
theorem dX6_least_10 : decode cX6_least 10 = .ok (.ireturn, 1) := by decide +kernel
theorem dX6_least_11 : decode cX6_least 11 = .ok (.iconst 0, 1) := by decide +kernel
theorem dX6_least_12 : decode cX6_least 12 = .ok (.istore_n 2, 1) := by decide +kernel
theorem dX6_least_13 : decode cX6_least 13 = .ok (.iload_n 2, 1) := by decide +kernel
theorem dX6_least_14 : decode cX6_least 14 = .ok (.bipush 9, 2) := by decide +kernel
theorem dX6_least_16 : decode cX6_least 16 = .ok (.if_icmp .gt 34, 3) := by decide +kernel
theorem dX6_least_19 : decode cX6_least 19 = .ok (.aload_n 0, 1) := by decide +kernel
theorem dX6_least_20 : decode cX6_least 20 = .ok (.getfield 48, 3) := by decide +kernel
theorem dX6_least_23 : decode cX6_least 23 = .ok (.aload_n 0, 1) := by decide +kernel
theorem dX6_least_24 : decode cX6_least 24 = .ok (.getfield 25, 3) := by decide +kernel
theorem dX6_least_27 : decode cX6_least 27 = .ok (.iload_n 1, 1) := by decide +kernel
theorem dX6_least_28 : decode cX6_least 28 = .ok (.iload_n 2, 1) := by decide +kernel
theorem dX6_least_29 : decode cX6_least 29 = .ok (.invokevirtual 203, 3) := by decide +kernel
theorem dX6_least_32 : decode cX6_least 32 = .ok (.aload_n 0, 1) := by decide +kernel
theorem dX6_least_33 : decode cX6_least 33 = .ok (.getfield 48, 3) := by decide +kernel
theorem dX6_least_36 : decode cX6_least 36 = .ok (.invokevirtual 225, 3) := by decide +kernel
theorem dX6_least_39 : decode cX6_least 39 = .ok (.ifCond .eq 5, 3) := by decide +kernel
theorem dX6_least_42 : decode cX6_least 42 = .ok (.iload_n 2, 1) := by decide +kernel
theorem dX6_least_43 : decode cX6_least 43 = .ok (.ireturn, 1) := by decide +kernel
theorem dX6_least_44 : decode cX6_least 44 = .ok (.iinc 2 1, 3) := by decide +kernel
theorem dX6_least_47 : decode cX6_least 47 = .ok (.goto (-34), 3) := by decide +kernel
theorem dX6_least_50 : decode cX6_least 50 = .ok (.ldc 228, 2) := by decide +kernel
theorem dX6_least_52 : decode cX6_least 52 = .ok (.ireturn, 1) := by decide +kernel
theorem dX6_needed_0 : decode cX6_needed 0 = .ok (.aload_n 0, 1) := by decide +kernel
theorem dX6_needed_1 : decode cX6_needed 1 = .ok (.iload_n 1, 1) := by decide +kernel
theorem dX6_needed_2 : decode cX6_needed 2 = .ok (.invokevirtual 156, 3) := by decide +kernel
theorem dX6_needed_5 : decode cX6_needed 5 = .ok (.ifCond .eq 10, 3) := by decide +kernel
theorem dX6_needed_8 : decode cX6_needed 8 = .ok (.iload_n 2, 1) := by decide +kernel
theorem dX6_needed_9 : decode cX6_needed 9 = .ok (.invokestatic 200, 3) := by decide +kernel
theorem dX6_needed_12 : decode cX6_needed 12 = .ok (.ifCond .ne 6, 3) := by decide +kernel
theorem dX6_needed_15 : decode cX6_needed 15 = .ok (.ldc 75, 2) := by decide +kernel
theorem dX6_needed_17 : decode cX6_needed 17 = .ok (.ireturn, 1) := by decide +kernel
theorem dX6_needed_18 : decode cX6_needed 18 = .ok (.aload_n 0, 1) := by decide +kernel
theorem dX6_needed_19 : decode cX6_needed 19 = .ok (.getfield 48, 3) := by decide +kernel
theorem dX6_needed_22 : decode cX6_needed 22 = .ok (.aload_n 0, 1) := by decide +kernel
theorem dX6_needed_23 : decode cX6_needed 23 = .ok (.getfield 25, 3) := by decide +kernel
theorem dX6_needed_26 : decode cX6_needed 26 = .ok (.iload_n 1, 1) := by decide +kernel
theorem dX6_needed_27 : decode cX6_needed 27 = .ok (.iload_n 2, 1) := by decide +kernel
theorem dX6_needed_28 : decode cX6_needed 28 = .ok (.invokevirtual 203, 3) := by decide +kernel
theorem dX6_needed_31 : decode cX6_needed 31 = .ok (.aload_n 0, 1) := by decide +kernel
theorem dX6_needed_32 : decode cX6_needed 32 = .ok (.getfield 48, 3) := by decide +kernel
theorem dX6_needed_35 : decode cX6_needed 35 = .ok (.invokevirtual 206, 3) := by decide +kernel
theorem dX6_needed_38 : decode cX6_needed 38 = .ok (.ifCond .eq 6, 3) := by decide +kernel
theorem dX6_needed_41 : decode cX6_needed 41 = .ok (.ldc 117, 2) := by decide +kernel
theorem dX6_needed_43 : decode cX6_needed 43 = .ok (.ireturn, 1) := by decide +kernel
theorem dX6_needed_44 : decode cX6_needed 44 = .ok (.aload_n 0, 1) := by decide +kernel
theorem dX6_needed_45 : decode cX6_needed 45 = .ok (.getfield 48, 3) := by decide +kernel
theorem dX6_needed_48 : decode cX6_needed 48 = .ok (.invokevirtual 209, 3) := by decide +kernel
theorem dX6_needed_51 : decode cX6_needed 51 = .ok (.istore_n 3, 1) := by decide +kernel
theorem dX6_needed_52 : decode cX6_needed 52 = .ok (.aload_n 0, 1) := by decide +kernel
theorem dX6_needed_53 : decode cX6_needed 53 = .ok (.getfield 48, 3) := by decide +kernel
theorem dX6_needed_56 : decode cX6_needed 56 = .ok (.invokevirtual 210, 3) := by decide +kernel
theorem dX6_needed_59 : decode cX6_needed 59 = .ok (.istore 4, 2) := by decide +kernel
theorem dX6_needed_61 : decode cX6_needed 61 = .ok (.aload_n 0, 1) := by decide +kernel
theorem dX6_needed_62 : decode cX6_needed 62 = .ok (.getfield 48, 3) := by decide +kernel
theorem dX6_needed_65 : decode cX6_needed 65 = .ok (.invokevirtual 213, 3) := by decide +kernel
theorem dX6_needed_68 : decode cX6_needed 68 = .ok (.istore 5, 2) := by decide +kernel
theorem dX6_needed_70 : decode cX6_needed 70 = .ok (.iconst 0, 1) := by decide +kernel
theorem dX6_needed_71 : decode cX6_needed 71 = .ok (.istore 6, 2) := by decide +kernel
theorem dX6_needed_73 : decode cX6_needed 73 = .ok (.iconst 0, 1) := by decide +kernel
theorem dX6_needed_74 : decode cX6_needed 74 = .ok (.istore 7, 2) := by decide +kernel
theorem dX6_needed_76 : decode cX6_needed 76 = .ok (.iload 7, 2) := by decide +kernel
theorem dX6_needed_78 : decode cX6_needed 78 = .ok (.aload_n 0, 1) := by decide +kernel
theorem dX6_needed_79 : decode cX6_needed 79 = .ok (.getfield 25, 3) := by decide +kernel
theorem dX6_needed_82 : decode cX6_needed 82 = .ok (.invokevirtual 229, 3) := by decide +kernel
theorem dX6_needed_85 : decode cX6_needed 85 = .ok (.if_icmp .ge 68, 3) := by decide +kernel
theorem dX6_needed_88 : decode cX6_needed 88 = .ok (.aload_n 0, 1) := by decide +kernel
theorem dX6_needed_89 : decode cX6_needed 89 = .ok (.getfield 29, 3) := by decide +kernel
theorem dX6_needed_92 : decode cX6_needed 92 = .ok (.aload_n 0, 1) := by decide +kernel
theorem dX6_needed_93 : decode cX6_needed 93 = .ok (.getfield 25, 3) := by decide +kernel
theorem dX6_needed_96 : decode cX6_needed 96 = .ok (.invokevirtual 126, 3) := by decide +kernel
theorem dX6_needed_99 : decode cX6_needed 99 = .ok (.aload_n 0, 1) := by decide +kernel
theorem dX6_needed_100 : decode cX6_needed 100 = .ok (.getfield 29, 3) := by decide +kernel
theorem dX6_needed_103 : decode cX6_needed 103 = .ok (.iload 7, 2) := by decide +kernel
theorem dX6_needed_105 : decode cX6_needed 105 = .ok (.iconst 3, 1) := by decide +kernel
theorem dX6_needed_106 : decode cX6_needed 106 = .ok (.iconst 0, 1) := by decide +kernel
theorem dX6_needed_107 : decode cX6_needed 107 = .ok (.invokevirtual 232, 3) := by decide +kernel
theorem dX6_needed_110 : decode cX6_needed 110 = .ok (.aload_n 0, 1) := by decide +kernel
theorem dX6_needed_111 : decode cX6_needed 111 = .ok (.getfield 48, 3) := by decide +kernel
theorem dX6_needed_114 : decode cX6_needed 114 = .ok (.aload_n 0, 1) := by decide +kernel
theorem dX6_needed_115 : decode cX6_needed 115 = .ok (.getfield 29, 3) := by decide +kernel
theorem dX6_needed_118 : decode cX6_needed 118 = .ok (.iload_n 1, 1) := by decide +kernel
theorem dX6_needed_119 : decode cX6_needed 119 = .ok (.iload_n 2, 1) := by decide +kernel
theorem dX6_needed_120 : decode cX6_needed 120 = .ok (.invokevirtual 203, 3) := by decide +kernel
theorem dX6_needed_123 : decode cX6_needed 123 = .ok (.aload_n 0, 1) := by decide +kernel
theorem dX6_needed_124 : decode cX6_needed 124 = .ok (.getfield 48, 3) := by decide +kernel
theorem dX6_needed_127 : decode cX6_needed 127 = .ok (.iload_n 3, 1) := by decide +kernel
theorem dX6_needed_128 : decode cX6_needed 128 = .ok (.iload 4, 2) := by decide +kernel
theorem dX6_needed_130 : decode cX6_needed 130 = .ok (.iload 5, 2) := by decide +kernel
theorem dX6_needed_132 : decode cX6_needed 132 = .ok (.invokevirtual 236, 3) := by decide +kernel
theorem dX6_needed_135 : decode cX6_needed 135 = .ok (.ifCond .ne 12, 3) := by decide +kernel
theorem dX6_needed_138 : decode cX6_needed 138 = .ok (.iload 6, 2) := by decide +kernel
theorem dX6_needed_140 : decode cX6_needed 140 = .ok (.iconst 1, 1) := by decide +kernel
theorem dX6_needed_141 : decode cX6_needed 141 = .ok (.iload 7, 2) := by decide +kernel
theorem dX6_needed_143 : decode cX6_needed 143 = .ok (.ishl, 1) := by decide +kernel
theorem dX6_needed_144 : decode cX6_needed 144 = .ok (.ior, 1) := by decide +kernel
theorem dX6_needed_145 : decode cX6_needed 145 = .ok (.istore 6, 2) := by decide +kernel
theorem dX6_needed_147 : decode cX6_needed 147 = .ok (.iinc 7 1, 3) := by decide +kernel
theorem dX6_needed_150 : decode cX6_needed 150 = .ok (.goto (-74), 3) := by decide +kernel
theorem dX6_needed_153 : decode cX6_needed 153 = .ok (.iload 6, 2) := by decide +kernel
theorem dX6_needed_155 : decode cX6_needed 155 = .ok (.ireturn, 1) := by decide +kernel
theorem dX6_fits_0 : decode cX6_fits 0 = .ok (.aload_n 0, 1) := by decide +kernel
theorem dX6_fits_1 : decode cX6_fits 1 = .ok (.iload_n 1, 1) := by decide +kernel
theorem dX6_fits_2 : decode cX6_fits 2 = .ok (.invokevirtual 134, 3) := by decide +kernel
theorem dX6_fits_5 : decode cX6_fits 5 = .ok (.ifCond .eq 36, 3) := by decide +kernel
theorem dX6_fits_8 : decode cX6_fits 8 = .ok (.aload_n 0, 1) := by decide +kernel
theorem dX6_fits_9 : decode cX6_fits 9 = .ok (.iload_n 2, 1) := by decide +kernel
theorem dX6_fits_10 : decode cX6_fits 10 = .ok (.invokevirtual 156, 3) := by decide +kernel
theorem dX6_fits_13 : decode cX6_fits 13 = .ok (.ifCond .eq 28, 3) := by decide +kernel
theorem dX6_fits_16 : decode cX6_fits 16 = .ok (.iload_n 3, 1) := by decide +kernel
theorem dX6_fits_17 : decode cX6_fits 17 = .ok (.invokestatic 200, 3) := by decide +kernel
theorem dX6_fits_20 : decode cX6_fits 20 = .ok (.ifCond .eq 21, 3) := by decide +kernel
theorem dX6_fits_23 : decode cX6_fits 23 = .ok (.iload 4, 2) := by decide +kernel
theorem dX6_fits_25 : decode cX6_fits 25 = .ok (.invokestatic 67, 3) := by decide +kernel
theorem dX6_fits_28 : decode cX6_fits 28 = .ok (.ifCond .eq 13, 3) := by decide +kernel
theorem dX6_fits_31 : decode cX6_fits 31 = .ok (.iload 5, 2) := by decide +kernel
theorem dX6_fits_33 : decode cX6_fits 33 = .ok (.iconst 0, 1) := by decide +kernel
theorem dX6_fits_34 : decode cX6_fits 34 = .ok (.iconst 2, 1) := by decide +kernel
theorem dX6_fits_35 : decode cX6_fits 35 = .ok (.invokestatic 71, 3) := by decide +kernel
theorem dX6_fits_38 : decode cX6_fits 38 = .ok (.ifCond .ne 6, 3) := by decide +kernel
theorem dX6_fits_41 : decode cX6_fits 41 = .ok (.ldc 75, 2) := by decide +kernel
theorem dX6_fits_43 : decode cX6_fits 43 = .ok (.ireturn, 1) := by decide +kernel
theorem dX6_fits_44 : decode cX6_fits 44 = .ok (.aload_n 0, 1) := by decide +kernel
theorem dX6_fits_45 : decode cX6_fits 45 = .ok (.getfield 11, 3) := by decide +kernel
theorem dX6_fits_48 : decode cX6_fits 48 = .ok (.iload 4, 2) := by decide +kernel
theorem dX6_fits_50 : decode cX6_fits 50 = .ok (.aaload, 1) := by decide +kernel
theorem dX6_fits_51 : decode cX6_fits 51 = .ok (.invokevirtual 87, 3) := by decide +kernel
theorem dX6_fits_54 : decode cX6_fits 54 = .ok (.ifCond .eq 9, 3) := by decide +kernel
theorem dX6_fits_57 : decode cX6_fits 57 = .ok (.aload_n 0, 1) := by decide +kernel
theorem dX6_fits_58 : decode cX6_fits 58 = .ok (.iconst 1, 1) := by decide +kernel
theorem dX6_fits_59 : decode cX6_fits 59 = .ok (.invokevirtual 76, 3) := by decide +kernel
theorem dX6_fits_62 : decode cX6_fits 62 = .ok (.ireturn, 1) := by decide +kernel
theorem dX6_fits_63 : decode cX6_fits 63 = .ok (.aload_n 0, 1) := by decide +kernel
theorem dX6_fits_64 : decode cX6_fits 64 = .ok (.getfield 11, 3) := by decide +kernel
theorem dX6_fits_67 : decode cX6_fits 67 = .ok (.iload 4, 2) := by decide +kernel
theorem dX6_fits_69 : decode cX6_fits 69 = .ok (.aaload, 1) := by decide +kernel
theorem dX6_fits_70 : decode cX6_fits 70 = .ok (.invokevirtual 91, 3) := by decide +kernel
theorem dX6_fits_73 : decode cX6_fits 73 = .ok (.ifCond .ne 9, 3) := by decide +kernel
theorem dX6_fits_76 : decode cX6_fits 76 = .ok (.aload_n 0, 1) := by decide +kernel
theorem dX6_fits_77 : decode cX6_fits 77 = .ok (.iconst 2, 1) := by decide +kernel
theorem dX6_fits_78 : decode cX6_fits 78 = .ok (.invokevirtual 76, 3) := by decide +kernel
theorem dX6_fits_81 : decode cX6_fits 81 = .ok (.ireturn, 1) := by decide +kernel
theorem dX6_fits_82 : decode cX6_fits 82 = .ok (.iload 5, 2) := by decide +kernel
theorem dX6_fits_84 : decode cX6_fits 84 = .ok (.ifCond .ne 7, 3) := by decide +kernel
theorem dX6_fits_87 : decode cX6_fits 87 = .ok (.iconst 1, 1) := by decide +kernel
theorem dX6_fits_88 : decode cX6_fits 88 = .ok (.goto 4, 3) := by decide +kernel
theorem dX6_fits_91 : decode cX6_fits 91 = .ok (.iconst 0, 1) := by decide +kernel
theorem dX6_fits_92 : decode cX6_fits 92 = .ok (.istore 6, 2) := by decide +kernel
theorem dX6_fits_94 : decode cX6_fits 94 = .ok (.iconst 0, 1) := by decide +kernel
theorem dX6_fits_95 : decode cX6_fits 95 = .ok (.istore 7, 2) := by decide +kernel
theorem dX6_fits_97 : decode cX6_fits 97 = .ok (.iload 6, 2) := by decide +kernel
theorem dX6_fits_99 : decode cX6_fits 99 = .ok (.istore 8, 2) := by decide +kernel
theorem dX6_fits_101 : decode cX6_fits 101 = .ok (.iload 8, 2) := by decide +kernel
theorem dX6_fits_103 : decode cX6_fits 103 = .ok (.aload_n 0, 1) := by decide +kernel
theorem dX6_fits_104 : decode cX6_fits 104 = .ok (.iload 5, 2) := by decide +kernel
theorem dX6_fits_106 : decode cX6_fits 106 = .ok (.invokevirtual 239, 3) := by decide +kernel
theorem dX6_fits_109 : decode cX6_fits 109 = .ok (.if_icmp .gt 68, 3) := by decide +kernel
theorem dX6_fits_112 : decode cX6_fits 112 = .ok (.aload_n 0, 1) := by decide +kernel
theorem dX6_fits_113 : decode cX6_fits 113 = .ok (.getfield 29, 3) := by decide +kernel
theorem dX6_fits_116 : decode cX6_fits 116 = .ok (.aload_n 0, 1) := by decide +kernel
theorem dX6_fits_117 : decode cX6_fits 117 = .ok (.getfield 25, 3) := by decide +kernel
theorem dX6_fits_120 : decode cX6_fits 120 = .ok (.invokevirtual 126, 3) := by decide +kernel
theorem dX6_fits_123 : decode cX6_fits 123 = .ok (.aload_n 0, 1) := by decide +kernel
theorem dX6_fits_124 : decode cX6_fits 124 = .ok (.iload_n 1, 1) := by decide +kernel
theorem dX6_fits_125 : decode cX6_fits 125 = .ok (.iload 5, 2) := by decide +kernel
theorem dX6_fits_127 : decode cX6_fits 127 = .ok (.iload 8, 2) := by decide +kernel
theorem dX6_fits_129 : decode cX6_fits 129 = .ok (.invokevirtual 242, 3) := by decide +kernel
theorem dX6_fits_132 : decode cX6_fits 132 = .ok (.aload_n 0, 1) := by decide +kernel
theorem dX6_fits_133 : decode cX6_fits 133 = .ok (.getfield 48, 3) := by decide +kernel
theorem dX6_fits_136 : decode cX6_fits 136 = .ok (.aload_n 0, 1) := by decide +kernel
theorem dX6_fits_137 : decode cX6_fits 137 = .ok (.getfield 29, 3) := by decide +kernel
theorem dX6_fits_140 : decode cX6_fits 140 = .ok (.iload_n 2, 1) := by decide +kernel
theorem dX6_fits_141 : decode cX6_fits 141 = .ok (.iload_n 3, 1) := by decide +kernel
theorem dX6_fits_142 : decode cX6_fits 142 = .ok (.invokevirtual 203, 3) := by decide +kernel
theorem dX6_fits_145 : decode cX6_fits 145 = .ok (.aload_n 0, 1) := by decide +kernel
theorem dX6_fits_146 : decode cX6_fits 146 = .ok (.getfield 48, 3) := by decide +kernel
theorem dX6_fits_149 : decode cX6_fits 149 = .ok (.aload_n 0, 1) := by decide +kernel
theorem dX6_fits_150 : decode cX6_fits 150 = .ok (.getfield 11, 3) := by decide +kernel
theorem dX6_fits_153 : decode cX6_fits 153 = .ok (.iload 4, 2) := by decide +kernel
theorem dX6_fits_155 : decode cX6_fits 155 = .ok (.aaload, 1) := by decide +kernel
theorem dX6_fits_156 : decode cX6_fits 156 = .ok (.invokevirtual 245, 3) := by decide +kernel
theorem dX6_fits_159 : decode cX6_fits 159 = .ok (.ifCond .eq 12, 3) := by decide +kernel
theorem dX6_fits_162 : decode cX6_fits 162 = .ok (.iload 7, 2) := by decide +kernel
theorem dX6_fits_164 : decode cX6_fits 164 = .ok (.iconst 1, 1) := by decide +kernel
theorem dX6_fits_165 : decode cX6_fits 165 = .ok (.iload 8, 2) := by decide +kernel
theorem dX6_fits_167 : decode cX6_fits 167 = .ok (.ishl, 1) := by decide +kernel
theorem dX6_fits_168 : decode cX6_fits 168 = .ok (.ior, 1) := by decide +kernel
theorem dX6_fits_169 : decode cX6_fits 169 = .ok (.istore 7, 2) := by decide +kernel
theorem dX6_fits_171 : decode cX6_fits 171 = .ok (.iinc 8 1, 3) := by decide +kernel
theorem dX6_fits_174 : decode cX6_fits 174 = .ok (.goto (-73), 3) := by decide +kernel
theorem dX6_fits_177 : decode cX6_fits 177 = .ok (.aload_n 0, 1) := by decide +kernel
theorem dX6_fits_178 : decode cX6_fits 178 = .ok (.iload 7, 2) := by decide +kernel
theorem dX6_fits_180 : decode cX6_fits 180 = .ok (.invokevirtual 84, 3) := by decide +kernel
theorem dX6_fits_183 : decode cX6_fits 183 = .ok (.ireturn, 1) := by decide +kernel
theorem dX6_drawn_0 : decode cX6_drawn 0 = .ok (.aload_n 0, 1) := by decide +kernel
theorem dX6_drawn_1 : decode cX6_drawn 1 = .ok (.getfield 25, 3) := by decide +kernel
theorem dX6_drawn_4 : decode cX6_drawn 4 = .ok (.invokevirtual 131, 3) := by decide +kernel
theorem dX6_drawn_7 : decode cX6_drawn 7 = .ok (.istore 4, 2) := by decide +kernel
theorem dX6_drawn_9 : decode cX6_drawn 9 = .ok (.iload 4, 2) := by decide +kernel
theorem dX6_drawn_11 : decode cX6_drawn 11 = .ok (.ifCond .ne 6, 3) := by decide +kernel
theorem dX6_drawn_14 : decode cX6_drawn 14 = .ok (.ldc 144, 2) := by decide +kernel
theorem dX6_drawn_16 : decode cX6_drawn 16 = .ok (.ireturn, 1) := by decide +kernel
theorem dX6_drawn_17 : decode cX6_drawn 17 = .ok (.iload_n 1, 1) := by decide +kernel
theorem dX6_drawn_18 : decode cX6_drawn 18 = .ok (.iconst 0, 1) := by decide +kernel
theorem dX6_drawn_19 : decode cX6_drawn 19 = .ok (.bipush 20, 2) := by decide +kernel
theorem dX6_drawn_21 : decode cX6_drawn 21 = .ok (.invokestatic 71, 3) := by decide +kernel
theorem dX6_drawn_24 : decode cX6_drawn 24 = .ok (.ifCond .eq 22, 3) := by decide +kernel
theorem dX6_drawn_27 : decode cX6_drawn 27 = .ok (.iload_n 2, 1) := by decide +kernel
theorem dX6_drawn_28 : decode cX6_drawn 28 = .ok (.iconst 1, 1) := by decide +kernel
theorem dX6_drawn_29 : decode cX6_drawn 29 = .ok (.ldc 249, 2) := by decide +kernel
theorem dX6_drawn_31 : decode cX6_drawn 31 = .ok (.invokestatic 71, 3) := by decide +kernel
theorem dX6_drawn_34 : decode cX6_drawn 34 = .ok (.ifCond .eq 12, 3) := by decide +kernel
theorem dX6_drawn_37 : decode cX6_drawn 37 = .ok (.iload_n 3, 1) := by decide +kernel
theorem dX6_drawn_38 : decode cX6_drawn 38 = .ok (.iconst 0, 1) := by decide +kernel
theorem dX6_drawn_39 : decode cX6_drawn 39 = .ok (.iconst 1, 1) := by decide +kernel
theorem dX6_drawn_40 : decode cX6_drawn 40 = .ok (.invokestatic 71, 3) := by decide +kernel
theorem dX6_drawn_43 : decode cX6_drawn 43 = .ok (.ifCond .ne 6, 3) := by decide +kernel
theorem dX6_drawn_46 : decode cX6_drawn 46 = .ok (.ldc 75, 2) := by decide +kernel
theorem dX6_drawn_48 : decode cX6_drawn 48 = .ok (.ireturn, 1) := by decide +kernel
theorem dX6_drawn_49 : decode cX6_drawn 49 = .ok (.iload_n 2, 1) := by decide +kernel
theorem dX6_drawn_50 : decode cX6_drawn 50 = .ok (.i2l, 1) := by decide +kernel
theorem dX6_drawn_51 : decode cX6_drawn 51 = .ok (.lstore 5, 2) := by decide +kernel
theorem dX6_drawn_53 : decode cX6_drawn 53 = .ok (.iconst 0, 1) := by decide +kernel
theorem dX6_drawn_54 : decode cX6_drawn 54 = .ok (.istore 7, 2) := by decide +kernel
theorem dX6_drawn_56 : decode cX6_drawn 56 = .ok (.iconst 0, 1) := by decide +kernel
theorem dX6_drawn_57 : decode cX6_drawn 57 = .ok (.istore 8, 2) := by decide +kernel
theorem dX6_drawn_59 : decode cX6_drawn 59 = .ok (.iload 8, 2) := by decide +kernel
theorem dX6_drawn_61 : decode cX6_drawn 61 = .ok (.iload_n 1, 1) := by decide +kernel
theorem dX6_drawn_62 : decode cX6_drawn 62 = .ok (.if_icmp .ge 94, 3) := by decide +kernel
theorem dX6_drawn_65 : decode cX6_drawn 65 = .ok (.lload 5, 2) := by decide +kernel
theorem dX6_drawn_67 : decode cX6_drawn 67 = .ok (.ldc2_w 250, 3) := by decide +kernel
theorem dX6_drawn_70 : decode cX6_drawn 70 = .ok (.lmul, 1) := by decide +kernel
theorem dX6_drawn_71 : decode cX6_drawn 71 = .ok (.ldc2_w 252, 3) := by decide +kernel
theorem dX6_drawn_74 : decode cX6_drawn 74 = .ok (.lrem, 1) := by decide +kernel
theorem dX6_drawn_75 : decode cX6_drawn 75 = .ok (.lstore 5, 2) := by decide +kernel
theorem dX6_drawn_77 : decode cX6_drawn 77 = .ok (.aload_n 0, 1) := by decide +kernel
theorem dX6_drawn_78 : decode cX6_drawn 78 = .ok (.getfield 48, 3) := by decide +kernel
theorem dX6_drawn_81 : decode cX6_drawn 81 = .ok (.aload_n 0, 1) := by decide +kernel
theorem dX6_drawn_82 : decode cX6_drawn 82 = .ok (.getfield 25, 3) := by decide +kernel
theorem dX6_drawn_85 : decode cX6_drawn 85 = .ok (.lload 5, 2) := by decide +kernel
theorem dX6_drawn_87 : decode cX6_drawn 87 = .ok (.iload 4, 2) := by decide +kernel
theorem dX6_drawn_89 : decode cX6_drawn 89 = .ok (.i2l, 1) := by decide +kernel
theorem dX6_drawn_90 : decode cX6_drawn 90 = .ok (.lrem, 1) := by decide +kernel
theorem dX6_drawn_91 : decode cX6_drawn 91 = .ok (.l2i, 1) := by decide +kernel
theorem dX6_drawn_92 : decode cX6_drawn 92 = .ok (.lload 5, 2) := by decide +kernel
theorem dX6_drawn_94 : decode cX6_drawn 94 = .ok (.ldc2_w 254, 3) := by decide +kernel
theorem dX6_drawn_97 : decode cX6_drawn 97 = .ok (.ldiv, 1) := by decide +kernel
theorem dX6_drawn_98 : decode cX6_drawn 98 = .ok (.ldc2_w 256, 3) := by decide +kernel
theorem dX6_drawn_101 : decode cX6_drawn 101 = .ok (.lrem, 1) := by decide +kernel
theorem dX6_drawn_102 : decode cX6_drawn 102 = .ok (.l2i, 1) := by decide +kernel
theorem dX6_drawn_103 : decode cX6_drawn 103 = .ok (.invokevirtual 203, 3) := by decide +kernel
theorem dX6_drawn_106 : decode cX6_drawn 106 = .ok (.aload_n 0, 1) := by decide +kernel
theorem dX6_drawn_107 : decode cX6_drawn 107 = .ok (.getfield 48, 3) := by decide +kernel
theorem dX6_drawn_110 : decode cX6_drawn 110 = .ok (.invokevirtual 206, 3) := by decide +kernel
theorem dX6_drawn_113 : decode cX6_drawn 113 = .ok (.ifCond .ne 37, 3) := by decide +kernel
theorem dX6_drawn_116 : decode cX6_drawn 116 = .ok (.iload 7, 2) := by decide +kernel
theorem dX6_drawn_118 : decode cX6_drawn 118 = .ok (.iload_n 3, 1) := by decide +kernel
theorem dX6_drawn_119 : decode cX6_drawn 119 = .ok (.ifCond .ne 13, 3) := by decide +kernel
theorem dX6_drawn_122 : decode cX6_drawn 122 = .ok (.aload_n 0, 1) := by decide +kernel
theorem dX6_drawn_123 : decode cX6_drawn 123 = .ok (.getfield 48, 3) := by decide +kernel
theorem dX6_drawn_126 : decode cX6_drawn 126 = .ok (.invokevirtual 209, 3) := by decide +kernel
theorem dX6_drawn_129 : decode cX6_drawn 129 = .ok (.goto 18, 3) := by decide +kernel
theorem dX6_drawn_132 : decode cX6_drawn 132 = .ok (.aload_n 0, 1) := by decide +kernel
theorem dX6_drawn_133 : decode cX6_drawn 133 = .ok (.getfield 48, 3) := by decide +kernel
theorem dX6_drawn_136 : decode cX6_drawn 136 = .ok (.invokevirtual 225, 3) := by decide +kernel
theorem dX6_drawn_139 : decode cX6_drawn 139 = .ok (.ifCond .eq 7, 3) := by decide +kernel
theorem dX6_drawn_142 : decode cX6_drawn 142 = .ok (.iconst 1, 1) := by decide +kernel
theorem dX6_drawn_143 : decode cX6_drawn 143 = .ok (.goto 4, 3) := by decide +kernel
theorem dX6_drawn_146 : decode cX6_drawn 146 = .ok (.iconst 0, 1) := by decide +kernel
theorem dX6_drawn_147 : decode cX6_drawn 147 = .ok (.iadd, 1) := by decide +kernel
theorem dX6_drawn_148 : decode cX6_drawn 148 = .ok (.istore 7, 2) := by decide +kernel
theorem dX6_drawn_150 : decode cX6_drawn 150 = .ok (.iinc 8 1, 3) := by decide +kernel
theorem dX6_drawn_153 : decode cX6_drawn 153 = .ok (.goto (-94), 3) := by decide +kernel
theorem dX6_drawn_156 : decode cX6_drawn 156 = .ok (.iload 7, 2) := by decide +kernel
theorem dX6_drawn_158 : decode cX6_drawn 158 = .ok (.ireturn, 1) := by decide +kernel
theorem dX6_image_0 : decode cX6_image 0 = .ok (.iload_n 1, 1) := by decide +kernel
theorem dX6_image_1 : decode cX6_image 1 = .ok (.invokestatic 258, 3) := by decide +kernel
theorem dX6_image_4 : decode cX6_image 4 = .ok (.ifCond .ne 6, 3) := by decide +kernel
theorem dX6_image_7 : decode cX6_image 7 = .ok (.ldc 75, 2) := by decide +kernel
theorem dX6_image_9 : decode cX6_image 9 = .ok (.ireturn, 1) := by decide +kernel
end
section
theorem dX6_image_10 : decode cX6_image 10 = .ok (.aload_n 0, 1) := by decide +kernel
theorem dX6_image_11 : decode cX6_image 11 = .ok (.getfield 25, 3) := by decide +kernel
theorem dX6_image_14 : decode cX6_image 14 = .ok (.invokevirtual 131, 3) := by decide +kernel
theorem dX6_image_17 : decode cX6_image 17 = .ok (.ifCond .ne 6, 3) := by decide +kernel
theorem dX6_image_20 : decode cX6_image 20 = .ok (.ldc 144, 2) := by decide +kernel
theorem dX6_image_22 : decode cX6_image 22 = .ok (.ireturn, 1) := by decide +kernel
theorem dX6_image_23 : decode cX6_image 23 = .ok (.aload_n 0, 1) := by decide +kernel
theorem dX6_image_24 : decode cX6_image 24 = .ok (.getfield 32, 3) := by decide +kernel
theorem dX6_image_27 : decode cX6_image 27 = .ok (.iload_n 1, 1) := by decide +kernel
theorem dX6_image_28 : decode cX6_image 28 = .ok (.aaload, 1) := by decide +kernel
theorem dX6_image_29 : decode cX6_image 29 = .ok (.aload_n 0, 1) := by decide +kernel
theorem dX6_image_30 : decode cX6_image 30 = .ok (.getfield 25, 3) := by decide +kernel
theorem dX6_image_33 : decode cX6_image 33 = .ok (.invokevirtual 126, 3) := by decide +kernel
theorem dX6_image_36 : decode cX6_image 36 = .ok (.iconst 1, 1) := by decide +kernel
theorem dX6_image_37 : decode cX6_image 37 = .ok (.ireturn, 1) := by decide +kernel
theorem dX6_restore_0 : decode cX6_restore 0 = .ok (.iload_n 1, 1) := by decide +kernel
theorem dX6_restore_1 : decode cX6_restore 1 = .ok (.invokestatic 258, 3) := by decide +kernel
theorem dX6_restore_4 : decode cX6_restore 4 = .ok (.ifCond .ne 6, 3) := by decide +kernel
theorem dX6_restore_7 : decode cX6_restore 7 = .ok (.ldc 75, 2) := by decide +kernel
theorem dX6_restore_9 : decode cX6_restore 9 = .ok (.ireturn, 1) := by decide +kernel
theorem dX6_restore_10 : decode cX6_restore 10 = .ok (.aload_n 0, 1) := by decide +kernel
theorem dX6_restore_11 : decode cX6_restore 11 = .ok (.getfield 32, 3) := by decide +kernel
theorem dX6_restore_14 : decode cX6_restore 14 = .ok (.iload_n 1, 1) := by decide +kernel
theorem dX6_restore_15 : decode cX6_restore 15 = .ok (.aaload, 1) := by decide +kernel
theorem dX6_restore_16 : decode cX6_restore 16 = .ok (.invokevirtual 131, 3) := by decide +kernel
theorem dX6_restore_19 : decode cX6_restore 19 = .ok (.ifCond .ne 6, 3) := by decide +kernel
theorem dX6_restore_22 : decode cX6_restore 22 = .ok (.ldc 144, 2) := by decide +kernel
theorem dX6_restore_24 : decode cX6_restore 24 = .ok (.ireturn, 1) := by decide +kernel
theorem dX6_restore_25 : decode cX6_restore 25 = .ok (.aload_n 0, 1) := by decide +kernel
theorem dX6_restore_26 : decode cX6_restore 26 = .ok (.getfield 25, 3) := by decide +kernel
theorem dX6_restore_29 : decode cX6_restore 29 = .ok (.aload_n 0, 1) := by decide +kernel
theorem dX6_restore_30 : decode cX6_restore 30 = .ok (.getfield 32, 3) := by decide +kernel
theorem dX6_restore_33 : decode cX6_restore 33 = .ok (.iload_n 1, 1) := by decide +kernel
theorem dX6_restore_34 : decode cX6_restore 34 = .ok (.aaload, 1) := by decide +kernel
theorem dX6_restore_35 : decode cX6_restore 35 = .ok (.invokevirtual 126, 3) := by decide +kernel
theorem dX6_restore_38 : decode cX6_restore 38 = .ok (.aload_n 0, 1) := by decide +kernel
theorem dX6_restore_39 : decode cX6_restore 39 = .ok (.getfield 39, 3) := by decide +kernel
theorem dX6_restore_42 : decode cX6_restore 42 = .ok (.invokevirtual 128, 3) := by decide +kernel
theorem dX6_restore_45 : decode cX6_restore 45 = .ok (.iconst 1, 1) := by decide +kernel
theorem dX6_restore_46 : decode cX6_restore 46 = .ok (.ireturn, 1) := by decide +kernel
theorem dX6_kind_0 : decode cX6_kind 0 = .ok (.aload_n 0, 1) := by decide +kernel
theorem dX6_kind_1 : decode cX6_kind 1 = .ok (.iload_n 1, 1) := by decide +kernel
theorem dX6_kind_2 : decode cX6_kind 2 = .ok (.invokevirtual 134, 3) := by decide +kernel
theorem dX6_kind_5 : decode cX6_kind 5 = .ok (.ifCond .eq 15, 3) := by decide +kernel
theorem dX6_kind_8 : decode cX6_kind 8 = .ok (.aload_n 0, 1) := by decide +kernel
theorem dX6_kind_9 : decode cX6_kind 9 = .ok (.getfield 25, 3) := by decide +kernel
theorem dX6_kind_12 : decode cX6_kind 12 = .ok (.iload_n 1, 1) := by decide +kernel
theorem dX6_kind_13 : decode cX6_kind 13 = .ok (.iconst 5, 1) := by decide +kernel
theorem dX6_kind_14 : decode cX6_kind 14 = .ok (.invokevirtual 141, 3) := by decide +kernel
theorem dX6_kind_17 : decode cX6_kind 17 = .ok (.goto 5, 3) := by decide +kernel
theorem dX6_kind_20 : decode cX6_kind 20 = .ok (.ldc 75, 2) := by decide +kernel
theorem dX6_kind_22 : decode cX6_kind 22 = .ok (.ireturn, 1) := by decide +kernel
theorem dX6_as_0 : decode cX6_as 0 = .ok (.aload_n 0, 1) := by decide +kernel
theorem dX6_as_1 : decode cX6_as 1 = .ok (.iload_n 1, 1) := by decide +kernel
theorem dX6_as_2 : decode cX6_as 2 = .ok (.invokevirtual 134, 3) := by decide +kernel
theorem dX6_as_5 : decode cX6_as 5 = .ok (.ifCond .eq 12, 3) := by decide +kernel
theorem dX6_as_8 : decode cX6_as 8 = .ok (.iload_n 2, 1) := by decide +kernel
theorem dX6_as_9 : decode cX6_as 9 = .ok (.iconst 0, 1) := by decide +kernel
theorem dX6_as_10 : decode cX6_as 10 = .ok (.iconst 5, 1) := by decide +kernel
theorem dX6_as_11 : decode cX6_as 11 = .ok (.invokestatic 71, 3) := by decide +kernel
theorem dX6_as_14 : decode cX6_as 14 = .ok (.ifCond .ne 6, 3) := by decide +kernel
theorem dX6_as_17 : decode cX6_as 17 = .ok (.ldc 75, 2) := by decide +kernel
theorem dX6_as_19 : decode cX6_as 19 = .ok (.ireturn, 1) := by decide +kernel
theorem dX6_as_20 : decode cX6_as 20 = .ok (.getstatic 261, 3) := by decide +kernel
theorem dX6_as_23 : decode cX6_as 23 = .ok (.aload_n 0, 1) := by decide +kernel
theorem dX6_as_24 : decode cX6_as 24 = .ok (.getfield 25, 3) := by decide +kernel
theorem dX6_as_27 : decode cX6_as 27 = .ok (.iload_n 1, 1) := by decide +kernel
theorem dX6_as_28 : decode cX6_as 28 = .ok (.iconst 5, 1) := by decide +kernel
theorem dX6_as_29 : decode cX6_as 29 = .ok (.invokevirtual 141, 3) := by decide +kernel
theorem dX6_as_32 : decode cX6_as 32 = .ok (.iaload, 1) := by decide +kernel
theorem dX6_as_33 : decode cX6_as 33 = .ok (.istore_n 3, 1) := by decide +kernel
theorem dX6_as_34 : decode cX6_as 34 = .ok (.iload_n 3, 1) := by decide +kernel
theorem dX6_as_35 : decode cX6_as 35 = .ok (.iload_n 2, 1) := by decide +kernel
theorem dX6_as_36 : decode cX6_as 36 = .ok (.invokestatic 265, 3) := by decide +kernel
theorem dX6_as_39 : decode cX6_as 39 = .ok (.ifCond .eq 11, 3) := by decide +kernel
theorem dX6_as_42 : decode cX6_as 42 = .ok (.aload_n 0, 1) := by decide +kernel
theorem dX6_as_43 : decode cX6_as 43 = .ok (.iload_n 1, 1) := by decide +kernel
theorem dX6_as_44 : decode cX6_as 44 = .ok (.invokevirtual 84, 3) := by decide +kernel
theorem dX6_as_47 : decode cX6_as 47 = .ok (.goto 8, 3) := by decide +kernel
theorem dX6_as_50 : decode cX6_as 50 = .ok (.aload_n 0, 1) := by decide +kernel
theorem dX6_as_51 : decode cX6_as 51 = .ok (.iconst 3, 1) := by decide +kernel
theorem dX6_as_52 : decode cX6_as 52 = .ok (.invokevirtual 76, 3) := by decide +kernel
theorem dX6_as_55 : decode cX6_as 55 = .ok (.ireturn, 1) := by decide +kernel
theorem dX6_ask_0 : decode cX6_ask 0 = .ok (.aload_n 0, 1) := by decide +kernel
theorem dX6_ask_1 : decode cX6_ask 1 = .ok (.iload_n 1, 1) := by decide +kernel
theorem dX6_ask_2 : decode cX6_ask 2 = .ok (.invokevirtual 134, 3) := by decide +kernel
theorem dX6_ask_5 : decode cX6_ask 5 = .ok (.ifCond .eq 12, 3) := by decide +kernel
theorem dX6_ask_8 : decode cX6_ask 8 = .ok (.iload_n 2, 1) := by decide +kernel
theorem dX6_ask_9 : decode cX6_ask 9 = .ok (.iconst 0, 1) := by decide +kernel
theorem dX6_ask_10 : decode cX6_ask 10 = .ok (.iconst 1, 1) := by decide +kernel
theorem dX6_ask_11 : decode cX6_ask 11 = .ok (.invokestatic 71, 3) := by decide +kernel
theorem dX6_ask_14 : decode cX6_ask 14 = .ok (.ifCond .ne 6, 3) := by decide +kernel
theorem dX6_ask_17 : decode cX6_ask 17 = .ok (.ldc 75, 2) := by decide +kernel
theorem dX6_ask_19 : decode cX6_ask 19 = .ok (.ireturn, 1) := by decide +kernel
theorem dX6_ask_20 : decode cX6_ask 20 = .ok (.aload_n 0, 1) := by decide +kernel
theorem dX6_ask_21 : decode cX6_ask 21 = .ok (.getfield 55, 3) := by decide +kernel
theorem dX6_ask_24 : decode cX6_ask 24 = .ok (.iload_n 1, 1) := by decide +kernel
theorem dX6_ask_25 : decode cX6_ask 25 = .ok (.iload_n 2, 1) := by decide +kernel
theorem dX6_ask_26 : decode cX6_ask 26 = .ok (.invokevirtual 268, 3) := by decide +kernel
theorem dX6_ask_29 : decode cX6_ask 29 = .ok (.ireturn, 1) := by decide +kernel
theorem dX6_trace_0 : decode cX6_trace 0 = .ok (.aload_n 0, 1) := by decide +kernel
theorem dX6_trace_1 : decode cX6_trace 1 = .ok (.getfield 55, 3) := by decide +kernel
theorem dX6_trace_4 : decode cX6_trace 4 = .ok (.iload_n 1, 1) := by decide +kernel
theorem dX6_trace_5 : decode cX6_trace 5 = .ok (.invokevirtual 271, 3) := by decide +kernel
theorem dX6_trace_8 : decode cX6_trace 8 = .ok (.ireturn, 1) := by decide +kernel
theorem dX6_count_0 : decode cX6_count 0 = .ok (.iload_n 1, 1) := by decide +kernel
theorem dX6_count_1 : decode cX6_count 1 = .ok (.tableswitch 84 0 5 #[39, 44, 52, 60, 68, 76], 39) := by decide +kernel
theorem dX6_count_40 : decode cX6_count 40 = .ok (.aload_n 0, 1) := by decide +kernel
theorem dX6_count_41 : decode cX6_count 41 = .ok (.invokevirtual 274, 3) := by decide +kernel
theorem dX6_count_44 : decode cX6_count 44 = .ok (.ireturn, 1) := by decide +kernel
theorem dX6_count_45 : decode cX6_count 45 = .ok (.aload_n 0, 1) := by decide +kernel
theorem dX6_count_46 : decode cX6_count 46 = .ok (.getfield 25, 3) := by decide +kernel
theorem dX6_count_49 : decode cX6_count 49 = .ok (.invokevirtual 131, 3) := by decide +kernel
theorem dX6_count_52 : decode cX6_count 52 = .ok (.ireturn, 1) := by decide +kernel
theorem dX6_count_53 : decode cX6_count 53 = .ok (.aload_n 0, 1) := by decide +kernel
theorem dX6_count_54 : decode cX6_count 54 = .ok (.getfield 25, 3) := by decide +kernel
theorem dX6_count_57 : decode cX6_count 57 = .ok (.invokevirtual 229, 3) := by decide +kernel
theorem dX6_count_60 : decode cX6_count 60 = .ok (.ireturn, 1) := by decide +kernel
theorem dX6_count_61 : decode cX6_count 61 = .ok (.aload_n 0, 1) := by decide +kernel
theorem dX6_count_62 : decode cX6_count 62 = .ok (.getfield 25, 3) := by decide +kernel
theorem dX6_count_65 : decode cX6_count 65 = .ok (.invokevirtual 277, 3) := by decide +kernel
theorem dX6_count_68 : decode cX6_count 68 = .ok (.ireturn, 1) := by decide +kernel
theorem dX6_count_69 : decode cX6_count 69 = .ok (.aload_n 0, 1) := by decide +kernel
theorem dX6_count_70 : decode cX6_count 70 = .ok (.getfield 39, 3) := by decide +kernel
theorem dX6_count_73 : decode cX6_count 73 = .ok (.invokevirtual 187, 3) := by decide +kernel
theorem dX6_count_76 : decode cX6_count 76 = .ok (.ireturn, 1) := by decide +kernel
theorem dX6_count_77 : decode cX6_count 77 = .ok (.aload_n 0, 1) := by decide +kernel
theorem dX6_count_78 : decode cX6_count 78 = .ok (.getfield 18, 3) := by decide +kernel
theorem dX6_count_81 : decode cX6_count 81 = .ok (.invokevirtual 116, 3) := by decide +kernel
theorem dX6_count_84 : decode cX6_count 84 = .ok (.ireturn, 1) := by decide +kernel
theorem dX6_count_85 : decode cX6_count 85 = .ok (.ldc 75, 2) := by decide +kernel
theorem dX6_count_87 : decode cX6_count 87 = .ok (.ireturn, 1) := by decide +kernel
theorem dX6_status_0 : decode cX6_status 0 = .ok (.aload_n 0, 1) := by decide +kernel
theorem dX6_status_1 : decode cX6_status 1 = .ok (.getfield 63, 3) := by decide +kernel
theorem dX6_status_4 : decode cX6_status 4 = .ok (.ireturn, 1) := by decide +kernel
theorem dX6_isWithin_0 : decode cX6_isWithin 0 = .ok (.iload_n 0, 1) := by decide +kernel
theorem dX6_isWithin_1 : decode cX6_isWithin 1 = .ok (.iload_n 1, 1) := by decide +kernel
theorem dX6_isWithin_2 : decode cX6_isWithin 2 = .ok (.if_icmp .lt 12, 3) := by decide +kernel
theorem dX6_isWithin_5 : decode cX6_isWithin 5 = .ok (.iload_n 0, 1) := by decide +kernel
theorem dX6_isWithin_6 : decode cX6_isWithin 6 = .ok (.iload_n 2, 1) := by decide +kernel
theorem dX6_isWithin_7 : decode cX6_isWithin 7 = .ok (.if_icmp .gt 7, 3) := by decide +kernel
theorem dX6_isWithin_10 : decode cX6_isWithin 10 = .ok (.iconst 1, 1) := by decide +kernel
theorem dX6_isWithin_11 : decode cX6_isWithin 11 = .ok (.goto 4, 3) := by decide +kernel
theorem dX6_isWithin_14 : decode cX6_isWithin 14 = .ok (.iconst 0, 1) := by decide +kernel
theorem dX6_isWithin_15 : decode cX6_isWithin 15 = .ok (.ireturn, 1) := by decide +kernel
theorem dX6_hasBit_0 : decode cX6_hasBit 0 = .ok (.iload_n 0, 1) := by decide +kernel
theorem dX6_hasBit_1 : decode cX6_hasBit 1 = .ok (.iload_n 1, 1) := by decide +kernel
theorem dX6_hasBit_2 : decode cX6_hasBit 2 = .ok (.ishr, 1) := by decide +kernel
theorem dX6_hasBit_3 : decode cX6_hasBit 3 = .ok (.iconst 1, 1) := by decide +kernel
theorem dX6_hasBit_4 : decode cX6_hasBit 4 = .ok (.iand, 1) := by decide +kernel
theorem dX6_hasBit_5 : decode cX6_hasBit 5 = .ok (.ifCond .eq 7, 3) := by decide +kernel
theorem dX6_hasBit_8 : decode cX6_hasBit 8 = .ok (.iconst 1, 1) := by decide +kernel
theorem dX6_hasBit_9 : decode cX6_hasBit 9 = .ok (.goto 4, 3) := by decide +kernel
theorem dX6_hasBit_12 : decode cX6_hasBit 12 = .ok (.iconst 0, 1) := by decide +kernel
theorem dX6_hasBit_13 : decode cX6_hasBit 13 = .ok (.ireturn, 1) := by decide +kernel
theorem dX6_isRow_0 : decode cX6_isRow 0 = .ok (.iload_n 0, 1) := by decide +kernel
theorem dX6_isRow_1 : decode cX6_isRow 1 = .ok (.iconst 0, 1) := by decide +kernel
theorem dX6_isRow_2 : decode cX6_isRow 2 = .ok (.bipush 7, 2) := by decide +kernel
theorem dX6_isRow_4 : decode cX6_isRow 4 = .ok (.invokestatic 71, 3) := by decide +kernel
theorem dX6_isRow_7 : decode cX6_isRow 7 = .ok (.ireturn, 1) := by decide +kernel
theorem dX6_isArgument_0 : decode cX6_isArgument 0 = .ok (.iload_n 0, 1) := by decide +kernel
theorem dX6_isArgument_1 : decode cX6_isArgument 1 = .ok (.iconst 0, 1) := by decide +kernel
theorem dX6_isArgument_2 : decode cX6_isArgument 2 = .ok (.bipush 9, 2) := by decide +kernel
theorem dX6_isArgument_4 : decode cX6_isArgument 4 = .ok (.invokestatic 71, 3) := by decide +kernel
theorem dX6_isArgument_7 : decode cX6_isArgument 7 = .ok (.ireturn, 1) := by decide +kernel
theorem dX6_isImage_0 : decode cX6_isImage 0 = .ok (.iload_n 0, 1) := by decide +kernel
theorem dX6_isImage_1 : decode cX6_isImage 1 = .ok (.iconst 0, 1) := by decide +kernel
theorem dX6_isImage_2 : decode cX6_isImage 2 = .ok (.iconst 1, 1) := by decide +kernel
theorem dX6_isImage_3 : decode cX6_isImage 3 = .ok (.invokestatic 71, 3) := by decide +kernel
theorem dX6_isImage_6 : decode cX6_isImage 6 = .ok (.ireturn, 1) := by decide +kernel
theorem dX6_isMethod_0 : decode cX6_isMethod 0 = .ok (.iload_n 1, 1) := by decide +kernel
theorem dX6_isMethod_1 : decode cX6_isMethod 1 = .ok (.iconst 0, 1) := by decide +kernel
theorem dX6_isMethod_2 : decode cX6_isMethod 2 = .ok (.aload_n 0, 1) := by decide +kernel
theorem dX6_isMethod_3 : decode cX6_isMethod 3 = .ok (.getfield 25, 3) := by decide +kernel
theorem dX6_isMethod_6 : decode cX6_isMethod 6 = .ok (.invokevirtual 131, 3) := by decide +kernel
theorem dX6_isMethod_9 : decode cX6_isMethod 9 = .ok (.iconst 1, 1) := by decide +kernel
theorem dX6_isMethod_10 : decode cX6_isMethod 10 = .ok (.isub, 1) := by decide +kernel
theorem dX6_isMethod_11 : decode cX6_isMethod 11 = .ok (.invokestatic 71, 3) := by decide +kernel
theorem dX6_isMethod_14 : decode cX6_isMethod 14 = .ok (.ireturn, 1) := by decide +kernel
theorem dX6_isAdvice_0 : decode cX6_isAdvice 0 = .ok (.iload_n 1, 1) := by decide +kernel
theorem dX6_isAdvice_1 : decode cX6_isAdvice 1 = .ok (.iconst 0, 1) := by decide +kernel
theorem dX6_isAdvice_2 : decode cX6_isAdvice 2 = .ok (.aload_n 0, 1) := by decide +kernel
theorem dX6_isAdvice_3 : decode cX6_isAdvice 3 = .ok (.getfield 25, 3) := by decide +kernel
theorem dX6_isAdvice_6 : decode cX6_isAdvice 6 = .ok (.invokevirtual 229, 3) := by decide +kernel
theorem dX6_isAdvice_9 : decode cX6_isAdvice 9 = .ok (.iconst 1, 1) := by decide +kernel
theorem dX6_isAdvice_10 : decode cX6_isAdvice 10 = .ok (.isub, 1) := by decide +kernel
theorem dX6_isAdvice_11 : decode cX6_isAdvice 11 = .ok (.invokestatic 71, 3) := by decide +kernel
theorem dX6_isAdvice_14 : decode cX6_isAdvice 14 = .ok (.ireturn, 1) := by decide +kernel
theorem dX6_isStatement_0 : decode cX6_isStatement 0 = .ok (.iload_n 1, 1) := by decide +kernel
theorem dX6_isStatement_1 : decode cX6_isStatement 1 = .ok (.tableswitch 49 0 2 #[27, 35, 41], 27) := by decide +kernel
theorem dX6_isStatement_28 : decode cX6_isStatement 28 = .ok (.iload_n 2, 1) := by decide +kernel
theorem dX6_isStatement_29 : decode cX6_isStatement 29 = .ok (.iconst 1, 1) := by decide +kernel
theorem dX6_isStatement_30 : decode cX6_isStatement 30 = .ok (.bipush 99, 2) := by decide +kernel
theorem dX6_isStatement_32 : decode cX6_isStatement 32 = .ok (.invokestatic 71, 3) := by decide +kernel
theorem dX6_isStatement_35 : decode cX6_isStatement 35 = .ok (.ireturn, 1) := by decide +kernel
theorem dX6_isStatement_36 : decode cX6_isStatement 36 = .ok (.aload_n 0, 1) := by decide +kernel
theorem dX6_isStatement_37 : decode cX6_isStatement 37 = .ok (.iload_n 2, 1) := by decide +kernel
theorem dX6_isStatement_38 : decode cX6_isStatement 38 = .ok (.invokevirtual 156, 3) := by decide +kernel
theorem dX6_isStatement_41 : decode cX6_isStatement 41 = .ok (.ireturn, 1) := by decide +kernel
theorem dX6_isStatement_42 : decode cX6_isStatement 42 = .ok (.iload_n 2, 1) := by decide +kernel
theorem dX6_isStatement_43 : decode cX6_isStatement 43 = .ok (.iconst 1, 1) := by decide +kernel
theorem dX6_isStatement_44 : decode cX6_isStatement 44 = .ok (.bipush 9, 2) := by decide +kernel
theorem dX6_isStatement_46 : decode cX6_isStatement 46 = .ok (.invokestatic 71, 3) := by decide +kernel
theorem dX6_isStatement_49 : decode cX6_isStatement 49 = .ok (.ireturn, 1) := by decide +kernel
theorem dX6_isStatement_50 : decode cX6_isStatement 50 = .ok (.iconst 0, 1) := by decide +kernel
theorem dX6_isStatement_51 : decode cX6_isStatement 51 = .ok (.ireturn, 1) := by decide +kernel
theorem dX6_find_0 : decode cX6_find 0 = .ok (.aload_n 0, 1) := by decide +kernel
theorem dX6_find_1 : decode cX6_find 1 = .ok (.iload_n 1, 1) := by decide +kernel
theorem dX6_find_2 : decode cX6_find 2 = .ok (.putfield 63, 3) := by decide +kernel
theorem dX6_find_5 : decode cX6_find 5 = .ok (.ldc_w 280, 3) := by decide +kernel
theorem dX6_find_8 : decode cX6_find 8 = .ok (.iload_n 1, 1) := by decide +kernel
theorem dX6_find_9 : decode cX6_find 9 = .ok (.isub, 1) := by decide +kernel
theorem dX6_find_10 : decode cX6_find 10 = .ok (.ireturn, 1) := by decide +kernel
theorem dX6_findNothing_0 : decode cX6_findNothing 0 = .ok (.aload_n 0, 1) := by decide +kernel
theorem dX6_findNothing_1 : decode cX6_findNothing 1 = .ok (.iconst 0, 1) := by decide +kernel
theorem dX6_findNothing_2 : decode cX6_findNothing 2 = .ok (.putfield 63, 3) := by decide +kernel
theorem dX6_findNothing_5 : decode cX6_findNothing 5 = .ok (.iload_n 1, 1) := by decide +kernel
theorem dX6_findNothing_6 : decode cX6_findNothing 6 = .ok (.ireturn, 1) := by decide +kernel
theorem dX6_rowsThere_0 : decode cX6_rowsThere 0 = .ok (.iconst 0, 1) := by decide +kernel
theorem dX6_rowsThere_1 : decode cX6_rowsThere 1 = .ok (.istore_n 1, 1) := by decide +kernel
theorem dX6_rowsThere_2 : decode cX6_rowsThere 2 = .ok (.iconst 0, 1) := by decide +kernel
theorem dX6_rowsThere_3 : decode cX6_rowsThere 3 = .ok (.istore_n 2, 1) := by decide +kernel
theorem dX6_rowsThere_4 : decode cX6_rowsThere 4 = .ok (.iload_n 2, 1) := by decide +kernel
theorem dX6_rowsThere_5 : decode cX6_rowsThere 5 = .ok (.bipush 8, 2) := by decide +kernel
theorem dX6_rowsThere_7 : decode cX6_rowsThere 7 = .ok (.if_icmp .ge 29, 3) := by decide +kernel
theorem dX6_rowsThere_10 : decode cX6_rowsThere 10 = .ok (.iload_n 1, 1) := by decide +kernel
theorem dX6_rowsThere_11 : decode cX6_rowsThere 11 = .ok (.aload_n 0, 1) := by decide +kernel
theorem dX6_rowsThere_12 : decode cX6_rowsThere 12 = .ok (.getfield 11, 3) := by decide +kernel
theorem dX6_rowsThere_15 : decode cX6_rowsThere 15 = .ok (.iload_n 2, 1) := by decide +kernel
theorem dX6_rowsThere_16 : decode cX6_rowsThere 16 = .ok (.aaload, 1) := by decide +kernel
theorem dX6_rowsThere_17 : decode cX6_rowsThere 17 = .ok (.invokevirtual 87, 3) := by decide +kernel
theorem dX6_rowsThere_20 : decode cX6_rowsThere 20 = .ok (.ifCond .eq 7, 3) := by decide +kernel
theorem dX6_rowsThere_23 : decode cX6_rowsThere 23 = .ok (.iconst 0, 1) := by decide +kernel
theorem dX6_rowsThere_24 : decode cX6_rowsThere 24 = .ok (.goto 4, 3) := by decide +kernel
theorem dX6_rowsThere_27 : decode cX6_rowsThere 27 = .ok (.iconst 1, 1) := by decide +kernel
theorem dX6_rowsThere_28 : decode cX6_rowsThere 28 = .ok (.iadd, 1) := by decide +kernel
theorem dX6_rowsThere_29 : decode cX6_rowsThere 29 = .ok (.istore_n 1, 1) := by decide +kernel
theorem dX6_rowsThere_30 : decode cX6_rowsThere 30 = .ok (.iinc 2 1, 3) := by decide +kernel
theorem dX6_rowsThere_33 : decode cX6_rowsThere 33 = .ok (.goto (-29), 3) := by decide +kernel
theorem dX6_rowsThere_36 : decode cX6_rowsThere 36 = .ok (.iload_n 1, 1) := by decide +kernel
theorem dX6_rowsThere_37 : decode cX6_rowsThere 37 = .ok (.ireturn, 1) := by decide +kernel
theorem dX6_changeFact_0 : decode cX6_changeFact 0 = .ok (.aload_n 0, 1) := by decide +kernel
theorem dX6_changeFact_1 : decode cX6_changeFact 1 = .ok (.getfield 25, 3) := by decide +kernel
theorem dX6_changeFact_4 : decode cX6_changeFact 4 = .ok (.iload_n 1, 1) := by decide +kernel
theorem dX6_changeFact_5 : decode cX6_changeFact 5 = .ok (.iload_n 2, 1) := by decide +kernel
theorem dX6_changeFact_6 : decode cX6_changeFact 6 = .ok (.invokevirtual 141, 3) := by decide +kernel
theorem dX6_changeFact_9 : decode cX6_changeFact 9 = .ok (.istore 4, 2) := by decide +kernel
theorem dX6_changeFact_11 : decode cX6_changeFact 11 = .ok (.aload_n 0, 1) := by decide +kernel
theorem dX6_changeFact_12 : decode cX6_changeFact 12 = .ok (.getfield 39, 3) := by decide +kernel
theorem dX6_changeFact_15 : decode cX6_changeFact 15 = .ok (.iload_n 1, 1) := by decide +kernel
theorem dX6_changeFact_16 : decode cX6_changeFact 16 = .ok (.iload_n 2, 1) := by decide +kernel
theorem dX6_changeFact_17 : decode cX6_changeFact 17 = .ok (.iload 4, 2) := by decide +kernel
theorem dX6_changeFact_19 : decode cX6_changeFact 19 = .ok (.invokevirtual 281, 3) := by decide +kernel
theorem dX6_changeFact_22 : decode cX6_changeFact 22 = .ok (.aload_n 0, 1) := by decide +kernel
theorem dX6_changeFact_23 : decode cX6_changeFact 23 = .ok (.getfield 25, 3) := by decide +kernel
theorem dX6_changeFact_26 : decode cX6_changeFact 26 = .ok (.iload_n 1, 1) := by decide +kernel
theorem dX6_changeFact_27 : decode cX6_changeFact 27 = .ok (.iload_n 2, 1) := by decide +kernel
theorem dX6_changeFact_28 : decode cX6_changeFact 28 = .ok (.iload_n 3, 1) := by decide +kernel
theorem dX6_changeFact_29 : decode cX6_changeFact 29 = .ok (.invokevirtual 232, 3) := by decide +kernel
theorem dX6_changeFact_32 : decode cX6_changeFact 32 = .ok (.iload 4, 2) := by decide +kernel
theorem dX6_changeFact_34 : decode cX6_changeFact 34 = .ok (.ireturn, 1) := by decide +kernel
theorem dX6_statementOf_0 : decode cX6_statementOf 0 = .ok (.iload_n 2, 1) := by decide +kernel
theorem dX6_statementOf_1 : decode cX6_statementOf 1 = .ok (.bipush 10, 2) := by decide +kernel
theorem dX6_statementOf_3 : decode cX6_statementOf 3 = .ok (.bipush 13, 2) := by decide +kernel
theorem dX6_statementOf_5 : decode cX6_statementOf 5 = .ok (.invokestatic 71, 3) := by decide +kernel
theorem dX6_statementOf_8 : decode cX6_statementOf 8 = .ok (.istore_n 3, 1) := by decide +kernel
theorem dX6_statementOf_9 : decode cX6_statementOf 9 = .ok (.iload_n 3, 1) := by decide +kernel
theorem dX6_statementOf_10 : decode cX6_statementOf 10 = .ok (.ifCond .ne 17, 3) := by decide +kernel
theorem dX6_statementOf_13 : decode cX6_statementOf 13 = .ok (.iload_n 2, 1) := by decide +kernel
theorem dX6_statementOf_14 : decode cX6_statementOf 14 = .ok (.bipush 20, 2) := by decide +kernel
theorem dX6_statementOf_16 : decode cX6_statementOf 16 = .ok (.bipush 23, 2) := by decide +kernel
theorem dX6_statementOf_18 : decode cX6_statementOf 18 = .ok (.invokestatic 71, 3) := by decide +kernel
theorem dX6_statementOf_21 : decode cX6_statementOf 21 = .ok (.ifCond .ne 6, 3) := by decide +kernel
theorem dX6_statementOf_24 : decode cX6_statementOf 24 = .ok (.ldc 75, 2) := by decide +kernel
theorem dX6_statementOf_26 : decode cX6_statementOf 26 = .ok (.ireturn, 1) := by decide +kernel
theorem dX6_statementOf_27 : decode cX6_statementOf 27 = .ok (.iload_n 2, 1) := by decide +kernel
theorem dX6_statementOf_28 : decode cX6_statementOf 28 = .ok (.bipush 10, 2) := by decide +kernel
theorem dX6_statementOf_30 : decode cX6_statementOf 30 = .ok (.irem, 1) := by decide +kernel
theorem dX6_statementOf_31 : decode cX6_statementOf 31 = .ok (.istore 4, 2) := by decide +kernel
theorem dX6_statementOf_33 : decode cX6_statementOf 33 = .ok (.iload 4, 2) := by decide +kernel
theorem dX6_statementOf_35 : decode cX6_statementOf 35 = .ok (.aload_n 0, 1) := by decide +kernel
theorem dX6_statementOf_36 : decode cX6_statementOf 36 = .ok (.getfield 25, 3) := by decide +kernel
theorem dX6_statementOf_39 : decode cX6_statementOf 39 = .ok (.iload_n 1, 1) := by decide +kernel
theorem dX6_statementOf_40 : decode cX6_statementOf 40 = .ok (.invokevirtual 159, 3) := by decide +kernel
theorem dX6_statementOf_43 : decode cX6_statementOf 43 = .ok (.if_icmp .lt 6, 3) := by decide +kernel
theorem dX6_statementOf_46 : decode cX6_statementOf 46 = .ok (.ldc 228, 2) := by decide +kernel
theorem dX6_statementOf_48 : decode cX6_statementOf 48 = .ok (.ireturn, 1) := by decide +kernel
theorem dX6_statementOf_49 : decode cX6_statementOf 49 = .ok (.iload_n 3, 1) := by decide +kernel
theorem dX6_statementOf_50 : decode cX6_statementOf 50 = .ok (.ifCond .eq 16, 3) := by decide +kernel
theorem dX6_statementOf_53 : decode cX6_statementOf 53 = .ok (.aload_n 0, 1) := by decide +kernel
theorem dX6_statementOf_54 : decode cX6_statementOf 54 = .ok (.getfield 25, 3) := by decide +kernel
theorem dX6_statementOf_57 : decode cX6_statementOf 57 = .ok (.iload_n 1, 1) := by decide +kernel
theorem dX6_statementOf_58 : decode cX6_statementOf 58 = .ok (.iload 4, 2) := by decide +kernel
theorem dX6_statementOf_60 : decode cX6_statementOf 60 = .ok (.invokevirtual 165, 3) := by decide +kernel
theorem dX6_statementOf_63 : decode cX6_statementOf 63 = .ok (.goto 13, 3) := by decide +kernel
theorem dX6_statementOf_66 : decode cX6_statementOf 66 = .ok (.aload_n 0, 1) := by decide +kernel
theorem dX6_statementOf_67 : decode cX6_statementOf 67 = .ok (.getfield 25, 3) := by decide +kernel
theorem dX6_statementOf_70 : decode cX6_statementOf 70 = .ok (.iload_n 1, 1) := by decide +kernel
theorem dX6_statementOf_71 : decode cX6_statementOf 71 = .ok (.iload 4, 2) := by decide +kernel
theorem dX6_statementOf_73 : decode cX6_statementOf 73 = .ok (.invokevirtual 168, 3) := by decide +kernel
theorem dX6_statementOf_76 : decode cX6_statementOf 76 = .ok (.ireturn, 1) := by decide +kernel
theorem dX6_lastTried_0 : decode cX6_lastTried 0 = .ok (.iload_n 1, 1) := by decide +kernel
theorem dX6_lastTried_1 : decode cX6_lastTried 1 = .ok (.lookupswitch 32 #[(0, 27), (1, 29)], 27) := by decide +kernel
theorem dX6_lastTried_28 : decode cX6_lastTried 28 = .ok (.iconst 5, 1) := by decide +kernel
theorem dX6_lastTried_29 : decode cX6_lastTried 29 = .ok (.ireturn, 1) := by decide +kernel
theorem dX6_lastTried_30 : decode cX6_lastTried 30 = .ok (.bipush 10, 2) := by decide +kernel
theorem dX6_lastTried_32 : decode cX6_lastTried 32 = .ok (.ireturn, 1) := by decide +kernel
theorem dX6_lastTried_33 : decode cX6_lastTried 33 = .ok (.aload_n 0, 1) := by decide +kernel
theorem dX6_lastTried_34 : decode cX6_lastTried 34 = .ok (.getfield 25, 3) := by decide +kernel
theorem dX6_lastTried_37 : decode cX6_lastTried 37 = .ok (.invokevirtual 229, 3) := by decide +kernel
theorem dX6_lastTried_40 : decode cX6_lastTried 40 = .ok (.iconst 1, 1) := by decide +kernel
theorem dX6_lastTried_41 : decode cX6_lastTried 41 = .ok (.isub, 1) := by decide +kernel
theorem dX6_lastTried_42 : decode cX6_lastTried 42 = .ok (.ireturn, 1) := by decide +kernel
theorem dX6_tryWith_0 : decode cX6_tryWith 0 = .ok (.iload_n 2, 1) := by decide +kernel
theorem dX6_tryWith_1 : decode cX6_tryWith 1 = .ok (.lookupswitch 53 #[(0, 27), (1, 40)], 27) := by decide +kernel
theorem dX6_tryWith_28 : decode cX6_tryWith 28 = .ok (.aload_n 0, 1) := by decide +kernel
theorem dX6_tryWith_29 : decode cX6_tryWith 29 = .ok (.getfield 29, 3) := by decide +kernel
theorem dX6_tryWith_32 : decode cX6_tryWith 32 = .ok (.iload_n 1, 1) := by decide +kernel
theorem dX6_tryWith_33 : decode cX6_tryWith 33 = .ok (.iconst 5, 1) := by decide +kernel
theorem dX6_tryWith_34 : decode cX6_tryWith 34 = .ok (.iload_n 3, 1) := by decide +kernel
theorem dX6_tryWith_35 : decode cX6_tryWith 35 = .ok (.invokevirtual 232, 3) := by decide +kernel
theorem dX6_tryWith_38 : decode cX6_tryWith 38 = .ok (.goto 25, 3) := by decide +kernel
theorem dX6_tryWith_41 : decode cX6_tryWith 41 = .ok (.aload_n 0, 1) := by decide +kernel
theorem dX6_tryWith_42 : decode cX6_tryWith 42 = .ok (.getfield 29, 3) := by decide +kernel
theorem dX6_tryWith_45 : decode cX6_tryWith 45 = .ok (.iload_n 1, 1) := by decide +kernel
theorem dX6_tryWith_46 : decode cX6_tryWith 46 = .ok (.iconst 3, 1) := by decide +kernel
theorem dX6_tryWith_47 : decode cX6_tryWith 47 = .ok (.iload_n 3, 1) := by decide +kernel
theorem dX6_tryWith_48 : decode cX6_tryWith 48 = .ok (.invokevirtual 232, 3) := by decide +kernel
theorem dX6_tryWith_51 : decode cX6_tryWith 51 = .ok (.goto 12, 3) := by decide +kernel
theorem dX6_tryWith_54 : decode cX6_tryWith 54 = .ok (.aload_n 0, 1) := by decide +kernel
theorem dX6_tryWith_55 : decode cX6_tryWith 55 = .ok (.getfield 29, 3) := by decide +kernel
theorem dX6_tryWith_58 : decode cX6_tryWith 58 = .ok (.iload_n 1, 1) := by decide +kernel
theorem dX6_tryWith_59 : decode cX6_tryWith 59 = .ok (.iload_n 3, 1) := by decide +kernel
theorem dX6_tryWith_60 : decode cX6_tryWith 60 = .ok (.invokevirtual 148, 3) := by decide +kernel
theorem dX6_tryWith_63 : decode cX6_tryWith 63 = .ok (.return_, 1) := by decide +kernel
end
section
theorem dX7_init_0 : decode cX7_init 0 = .ok (.aload_n 0, 1) := by decide +kernel
theorem dX7_init_1 : decode cX7_init 1 = .ok (.invokespecial 1, 3) := by decide +kernel
theorem dX7_init_4 : decode cX7_init 4 = .ok (.aload_n 0, 1) := by decide +kernel
theorem dX7_init_5 : decode cX7_init 5 = .ok (.bipush 8, 2) := by decide +kernel
theorem dX7_init_7 : decode cX7_init 7 = .ok (.newarray .int, 2) := by decide +kernel
theorem dX7_init_9 : decode cX7_init 9 = .ok (.putfield 7, 3) := by decide +kernel
theorem dX7_init_12 : decode cX7_init 12 = .ok (.aload_n 0, 1) := by decide +kernel
theorem dX7_init_13 : decode cX7_init 13 = .ok (.bipush 8, 2) := by decide +kernel
theorem dX7_init_15 : decode cX7_init 15 = .ok (.newarray .int, 2) := by decide +kernel
theorem dX7_init_17 : decode cX7_init 17 = .ok (.putfield 13, 3) := by decide +kernel
theorem dX7_init_20 : decode cX7_init 20 = .ok (.aload_n 0, 1) := by decide +kernel
theorem dX7_init_21 : decode cX7_init 21 = .ok (.sipush 320, 3) := by decide +kernel
theorem dX7_init_24 : decode cX7_init 24 = .ok (.newarray .int, 2) := by decide +kernel
theorem dX7_init_26 : decode cX7_init 26 = .ok (.putfield 16, 3) := by decide +kernel
theorem dX7_init_29 : decode cX7_init 29 = .ok (.aload_n 0, 1) := by decide +kernel
theorem dX7_init_30 : decode cX7_init 30 = .ok (.bipush 40, 2) := by decide +kernel
theorem dX7_init_32 : decode cX7_init 32 = .ok (.newarray .int, 2) := by decide +kernel
theorem dX7_init_34 : decode cX7_init 34 = .ok (.putfield 19, 3) := by decide +kernel
theorem dX7_init_37 : decode cX7_init 37 = .ok (.aload_n 0, 1) := by decide +kernel
theorem dX7_init_38 : decode cX7_init 38 = .ok (.sipush 130, 3) := by decide +kernel
theorem dX7_init_41 : decode cX7_init 41 = .ok (.newarray .int, 2) := by decide +kernel
theorem dX7_init_43 : decode cX7_init 43 = .ok (.putfield 22, 3) := by decide +kernel
theorem dX7_init_46 : decode cX7_init 46 = .ok (.aload_n 0, 1) := by decide +kernel
theorem dX7_init_47 : decode cX7_init 47 = .ok (.bipush 92, 2) := by decide +kernel
theorem dX7_init_49 : decode cX7_init 49 = .ok (.newarray .int, 2) := by decide +kernel
theorem dX7_init_51 : decode cX7_init 51 = .ok (.putfield 25, 3) := by decide +kernel
theorem dX7_init_54 : decode cX7_init 54 = .ok (.aload_n 0, 1) := by decide +kernel
theorem dX7_init_55 : decode cX7_init 55 = .ok (.bipush 92, 2) := by decide +kernel
theorem dX7_init_57 : decode cX7_init 57 = .ok (.newarray .int, 2) := by decide +kernel
theorem dX7_init_59 : decode cX7_init 59 = .ok (.putfield 28, 3) := by decide +kernel
theorem dX7_init_62 : decode cX7_init 62 = .ok (.aload_n 0, 1) := by decide +kernel
theorem dX7_init_63 : decode cX7_init 63 = .ok (.bipush 92, 2) := by decide +kernel
theorem dX7_init_65 : decode cX7_init 65 = .ok (.newarray .int, 2) := by decide +kernel
theorem dX7_init_67 : decode cX7_init 67 = .ok (.putfield 31, 3) := by decide +kernel
theorem dX7_init_70 : decode cX7_init 70 = .ok (.aload_n 0, 1) := by decide +kernel
theorem dX7_init_71 : decode cX7_init 71 = .ok (.sipush 1472, 3) := by decide +kernel
theorem dX7_init_74 : decode cX7_init 74 = .ok (.newarray .int, 2) := by decide +kernel
theorem dX7_init_76 : decode cX7_init 76 = .ok (.putfield 34, 3) := by decide +kernel
theorem dX7_init_79 : decode cX7_init 79 = .ok (.aload_n 0, 1) := by decide +kernel
theorem dX7_init_80 : decode cX7_init 80 = .ok (.sipush 184, 3) := by decide +kernel
theorem dX7_init_83 : decode cX7_init 83 = .ok (.newarray .int, 2) := by decide +kernel
theorem dX7_init_85 : decode cX7_init 85 = .ok (.putfield 37, 3) := by decide +kernel
theorem dX7_init_88 : decode cX7_init 88 = .ok (.aload_n 0, 1) := by decide +kernel
theorem dX7_init_89 : decode cX7_init 89 = .ok (.iconst 2, 1) := by decide +kernel
theorem dX7_init_90 : decode cX7_init 90 = .ok (.newarray .boolean, 2) := by decide +kernel
theorem dX7_init_92 : decode cX7_init 92 = .ok (.putfield 40, 3) := by decide +kernel
theorem dX7_init_95 : decode cX7_init 95 = .ok (.aload_n 0, 1) := by decide +kernel
theorem dX7_init_96 : decode cX7_init 96 = .ok (.sipush 700, 3) := by decide +kernel
theorem dX7_init_99 : decode cX7_init 99 = .ok (.newarray .int, 2) := by decide +kernel
theorem dX7_init_101 : decode cX7_init 101 = .ok (.putfield 44, 3) := by decide +kernel
theorem dX7_init_104 : decode cX7_init 104 = .ok (.aload_n 0, 1) := by decide +kernel
theorem dX7_init_105 : decode cX7_init 105 = .ok (.bipush 6, 2) := by decide +kernel
theorem dX7_init_107 : decode cX7_init 107 = .ok (.newarray .int, 2) := by decide +kernel
theorem dX7_init_109 : decode cX7_init 109 = .ok (.putfield 47, 3) := by decide +kernel
theorem dX7_init_112 : decode cX7_init 112 = .ok (.aload_n 0, 1) := by decide +kernel
theorem dX7_init_113 : decode cX7_init 113 = .ok (.bipush 100, 2) := by decide +kernel
theorem dX7_init_115 : decode cX7_init 115 = .ok (.newarray .int, 2) := by decide +kernel
theorem dX7_init_117 : decode cX7_init 117 = .ok (.putfield 50, 3) := by decide +kernel
theorem dX7_init_120 : decode cX7_init 120 = .ok (.aload_n 0, 1) := by decide +kernel
theorem dX7_init_121 : decode cX7_init 121 = .ok (.bipush 16, 2) := by decide +kernel
theorem dX7_init_123 : decode cX7_init 123 = .ok (.newarray .int, 2) := by decide +kernel
theorem dX7_init_125 : decode cX7_init 125 = .ok (.putfield 53, 3) := by decide +kernel
theorem dX7_init_128 : decode cX7_init 128 = .ok (.iconst 0, 1) := by decide +kernel
theorem dX7_init_129 : decode cX7_init 129 = .ok (.istore_n 1, 1) := by decide +kernel
theorem dX7_init_130 : decode cX7_init 130 = .ok (.iload_n 1, 1) := by decide +kernel
theorem dX7_init_131 : decode cX7_init 131 = .ok (.bipush 8, 2) := by decide +kernel
theorem dX7_init_133 : decode cX7_init 133 = .ok (.if_icmp .ge 17, 3) := by decide +kernel
theorem dX7_init_136 : decode cX7_init 136 = .ok (.aload_n 0, 1) := by decide +kernel
theorem dX7_init_137 : decode cX7_init 137 = .ok (.getfield 7, 3) := by decide +kernel
theorem dX7_init_140 : decode cX7_init 140 = .ok (.iload_n 1, 1) := by decide +kernel
theorem dX7_init_141 : decode cX7_init 141 = .ok (.ldc 56, 2) := by decide +kernel
theorem dX7_init_143 : decode cX7_init 143 = .ok (.iastore, 1) := by decide +kernel
theorem dX7_init_144 : decode cX7_init 144 = .ok (.iinc 1 1, 3) := by decide +kernel
theorem dX7_init_147 : decode cX7_init 147 = .ok (.goto (-17), 3) := by decide +kernel
theorem dX7_init_150 : decode cX7_init 150 = .ok (.return_, 1) := by decide +kernel
theorem dX7_in_0 : decode cX7_in 0 = .ok (.iload_n 0, 1) := by decide +kernel
theorem dX7_in_1 : decode cX7_in 1 = .ok (.iload_n 1, 1) := by decide +kernel
theorem dX7_in_2 : decode cX7_in 2 = .ok (.if_icmp .lt 12, 3) := by decide +kernel
theorem dX7_in_5 : decode cX7_in 5 = .ok (.iload_n 0, 1) := by decide +kernel
theorem dX7_in_6 : decode cX7_in 6 = .ok (.iload_n 2, 1) := by decide +kernel
theorem dX7_in_7 : decode cX7_in 7 = .ok (.if_icmp .gt 7, 3) := by decide +kernel
theorem dX7_in_10 : decode cX7_in 10 = .ok (.iconst 1, 1) := by decide +kernel
theorem dX7_in_11 : decode cX7_in 11 = .ok (.goto 4, 3) := by decide +kernel
theorem dX7_in_14 : decode cX7_in 14 = .ok (.iconst 0, 1) := by decide +kernel
theorem dX7_in_15 : decode cX7_in 15 = .ok (.ireturn, 1) := by decide +kernel
theorem dX7_has_0 : decode cX7_has 0 = .ok (.iload_n 0, 1) := by decide +kernel
theorem dX7_has_1 : decode cX7_has 1 = .ok (.iload_n 1, 1) := by decide +kernel
theorem dX7_has_2 : decode cX7_has 2 = .ok (.ishr, 1) := by decide +kernel
theorem dX7_has_3 : decode cX7_has 3 = .ok (.iconst 1, 1) := by decide +kernel
theorem dX7_has_4 : decode cX7_has 4 = .ok (.iand, 1) := by decide +kernel
theorem dX7_has_5 : decode cX7_has 5 = .ok (.iconst 1, 1) := by decide +kernel
theorem dX7_has_6 : decode cX7_has 6 = .ok (.if_icmp .ne 7, 3) := by decide +kernel
theorem dX7_has_9 : decode cX7_has 9 = .ok (.iconst 1, 1) := by decide +kernel
theorem dX7_has_10 : decode cX7_has 10 = .ok (.goto 4, 3) := by decide +kernel
theorem dX7_has_13 : decode cX7_has 13 = .ok (.iconst 0, 1) := by decide +kernel
theorem dX7_has_14 : decode cX7_has 14 = .ok (.ireturn, 1) := by decide +kernel
theorem dX7_found_0 : decode cX7_found 0 = .ok (.aload_n 0, 1) := by decide +kernel
theorem dX7_found_1 : decode cX7_found 1 = .ok (.iload_n 1, 1) := by decide +kernel
theorem dX7_found_2 : decode cX7_found 2 = .ok (.putfield 57, 3) := by decide +kernel
theorem dX7_found_5 : decode cX7_found 5 = .ok (.ldc 61, 2) := by decide +kernel
theorem dX7_found_7 : decode cX7_found 7 = .ok (.iload_n 1, 1) := by decide +kernel
theorem dX7_found_8 : decode cX7_found 8 = .ok (.isub, 1) := by decide +kernel
theorem dX7_found_9 : decode cX7_found 9 = .ok (.ireturn, 1) := by decide +kernel
theorem dX7_well_0 : decode cX7_well 0 = .ok (.aload_n 0, 1) := by decide +kernel
theorem dX7_well_1 : decode cX7_well 1 = .ok (.iconst 0, 1) := by decide +kernel
theorem dX7_well_2 : decode cX7_well 2 = .ok (.putfield 57, 3) := by decide +kernel
theorem dX7_well_5 : decode cX7_well 5 = .ok (.iload_n 1, 1) := by decide +kernel
theorem dX7_well_6 : decode cX7_well 6 = .ok (.ireturn, 1) := by decide +kernel
theorem dX7_copies_0 : decode cX7_copies 0 = .ok (.iconst 0, 1) := by decide +kernel
theorem dX7_copies_1 : decode cX7_copies 1 = .ok (.istore 4, 2) := by decide +kernel
theorem dX7_copies_3 : decode cX7_copies 3 = .ok (.iload 4, 2) := by decide +kernel
theorem dX7_copies_5 : decode cX7_copies 5 = .ok (.bipush 92, 2) := by decide +kernel
theorem dX7_copies_7 : decode cX7_copies 7 = .ok (.if_icmp .ge 21, 3) := by decide +kernel
theorem dX7_copies_10 : decode cX7_copies 10 = .ok (.aload_n 2, 1) := by decide +kernel
theorem dX7_copies_11 : decode cX7_copies 11 = .ok (.iload_n 3, 1) := by decide +kernel
theorem dX7_copies_12 : decode cX7_copies 12 = .ok (.iload 4, 2) := by decide +kernel
theorem dX7_copies_14 : decode cX7_copies 14 = .ok (.iadd, 1) := by decide +kernel
theorem dX7_copies_15 : decode cX7_copies 15 = .ok (.aload_n 0, 1) := by decide +kernel
theorem dX7_copies_16 : decode cX7_copies 16 = .ok (.iload_n 1, 1) := by decide +kernel
theorem dX7_copies_17 : decode cX7_copies 17 = .ok (.iload 4, 2) := by decide +kernel
theorem dX7_copies_19 : decode cX7_copies 19 = .ok (.iadd, 1) := by decide +kernel
theorem dX7_copies_20 : decode cX7_copies 20 = .ok (.iaload, 1) := by decide +kernel
theorem dX7_copies_21 : decode cX7_copies 21 = .ok (.iastore, 1) := by decide +kernel
theorem dX7_copies_22 : decode cX7_copies 22 = .ok (.iinc 4 1, 3) := by decide +kernel
theorem dX7_copies_25 : decode cX7_copies 25 = .ok (.goto (-22), 3) := by decide +kernel
theorem dX7_copies_28 : decode cX7_copies 28 = .ok (.return_, 1) := by decide +kernel
theorem dX7_isRow_0 : decode cX7_isRow 0 = .ok (.iload_n 0, 1) := by decide +kernel
theorem dX7_isRow_1 : decode cX7_isRow 1 = .ok (.iconst 0, 1) := by decide +kernel
theorem dX7_isRow_2 : decode cX7_isRow 2 = .ok (.bipush 7, 2) := by decide +kernel
theorem dX7_isRow_4 : decode cX7_isRow 4 = .ok (.invokestatic 62, 3) := by decide +kernel
theorem dX7_isRow_7 : decode cX7_isRow 7 = .ok (.ireturn, 1) := by decide +kernel
theorem dX7_isMissing_0 : decode cX7_isMissing 0 = .ok (.aload_n 0, 1) := by decide +kernel
theorem dX7_isMissing_1 : decode cX7_isMissing 1 = .ok (.getfield 7, 3) := by decide +kernel
theorem dX7_isMissing_4 : decode cX7_isMissing 4 = .ok (.iload_n 1, 1) := by decide +kernel
theorem dX7_isMissing_5 : decode cX7_isMissing 5 = .ok (.iaload, 1) := by decide +kernel
theorem dX7_isMissing_6 : decode cX7_isMissing 6 = .ok (.ldc 56, 2) := by decide +kernel
theorem dX7_isMissing_8 : decode cX7_isMissing 8 = .ok (.if_icmp .ne 7, 3) := by decide +kernel
theorem dX7_isMissing_11 : decode cX7_isMissing 11 = .ok (.iconst 1, 1) := by decide +kernel
theorem dX7_isMissing_12 : decode cX7_isMissing 12 = .ok (.goto 4, 3) := by decide +kernel
theorem dX7_isMissing_15 : decode cX7_isMissing 15 = .ok (.iconst 0, 1) := by decide +kernel
theorem dX7_isMissing_16 : decode cX7_isMissing 16 = .ok (.ireturn, 1) := by decide +kernel
theorem dX7_lowest_0 : decode cX7_lowest 0 = .ok (.iload_n 0, 1) := by decide +kernel
theorem dX7_lowest_1 : decode cX7_lowest 1 = .ok (.ifCond .ne 13, 3) := by decide +kernel
theorem dX7_lowest_4 : decode cX7_lowest 4 = .ok (.iload_n 1, 1) := by decide +kernel
theorem dX7_lowest_5 : decode cX7_lowest 5 = .ok (.bipush 24, 2) := by decide +kernel
theorem dX7_lowest_7 : decode cX7_lowest 7 = .ok (.ishl, 1) := by decide +kernel
theorem dX7_lowest_8 : decode cX7_lowest 8 = .ok (.bipush 24, 2) := by decide +kernel
theorem dX7_lowest_10 : decode cX7_lowest 10 = .ok (.ishr, 1) := by decide +kernel
theorem dX7_lowest_11 : decode cX7_lowest 11 = .ok (.goto 19, 3) := by decide +kernel
theorem dX7_lowest_14 : decode cX7_lowest 14 = .ok (.iload_n 0, 1) := by decide +kernel
theorem dX7_lowest_15 : decode cX7_lowest 15 = .ok (.iconst 1, 1) := by decide +kernel
theorem dX7_lowest_16 : decode cX7_lowest 16 = .ok (.if_icmp .ne 13, 3) := by decide +kernel
theorem dX7_lowest_19 : decode cX7_lowest 19 = .ok (.iload_n 1, 1) := by decide +kernel
theorem dX7_lowest_20 : decode cX7_lowest 20 = .ok (.bipush 16, 2) := by decide +kernel
theorem dX7_lowest_22 : decode cX7_lowest 22 = .ok (.ishl, 1) := by decide +kernel
theorem dX7_lowest_23 : decode cX7_lowest 23 = .ok (.bipush 16, 2) := by decide +kernel
theorem dX7_lowest_25 : decode cX7_lowest 25 = .ok (.ishr, 1) := by decide +kernel
theorem dX7_lowest_26 : decode cX7_lowest 26 = .ok (.goto 4, 3) := by decide +kernel
theorem dX7_lowest_29 : decode cX7_lowest 29 = .ok (.iload_n 1, 1) := by decide +kernel
theorem dX7_lowest_30 : decode cX7_lowest 30 = .ok (.ireturn, 1) := by decide +kernel
theorem dX7_row_0 : decode cX7_row 0 = .ok (.iload_n 1, 1) := by decide +kernel
theorem dX7_row_1 : decode cX7_row 1 = .ok (.invokestatic 66, 3) := by decide +kernel
theorem dX7_row_4 : decode cX7_row 4 = .ok (.ifCond .eq 18, 3) := by decide +kernel
theorem dX7_row_7 : decode cX7_row 7 = .ok (.iload_n 2, 1) := by decide +kernel
theorem dX7_row_8 : decode cX7_row 8 = .ok (.iconst 0, 1) := by decide +kernel
theorem dX7_row_9 : decode cX7_row 9 = .ok (.iconst 2, 1) := by decide +kernel
theorem dX7_row_10 : decode cX7_row 10 = .ok (.invokestatic 62, 3) := by decide +kernel
theorem dX7_row_13 : decode cX7_row 13 = .ok (.ifCond .eq 9, 3) := by decide +kernel
theorem dX7_row_16 : decode cX7_row 16 = .ok (.iload_n 3, 1) := by decide +kernel
theorem dX7_row_17 : decode cX7_row 17 = .ok (.bipush 40, 2) := by decide +kernel
theorem dX7_row_19 : decode cX7_row 19 = .ok (.if_icmp .le 6, 3) := by decide +kernel
theorem dX7_row_22 : decode cX7_row 22 = .ok (.ldc 70, 2) := by decide +kernel
theorem dX7_row_24 : decode cX7_row 24 = .ok (.ireturn, 1) := by decide +kernel
theorem dX7_row_25 : decode cX7_row 25 = .ok (.iload_n 3, 1) := by decide +kernel
theorem dX7_row_26 : decode cX7_row 26 = .ok (.ifCond .ge 9, 3) := by decide +kernel
theorem dX7_row_29 : decode cX7_row 29 = .ok (.aload_n 0, 1) := by decide +kernel
theorem dX7_row_30 : decode cX7_row 30 = .ok (.iconst 4, 1) := by decide +kernel
theorem dX7_row_31 : decode cX7_row 31 = .ok (.invokevirtual 71, 3) := by decide +kernel
theorem dX7_row_34 : decode cX7_row 34 = .ok (.ireturn, 1) := by decide +kernel
theorem dX7_row_35 : decode cX7_row 35 = .ok (.aload_n 0, 1) := by decide +kernel
theorem dX7_row_36 : decode cX7_row 36 = .ok (.getfield 7, 3) := by decide +kernel
theorem dX7_row_39 : decode cX7_row 39 = .ok (.iload_n 1, 1) := by decide +kernel
theorem dX7_row_40 : decode cX7_row 40 = .ok (.iload_n 2, 1) := by decide +kernel
theorem dX7_row_41 : decode cX7_row 41 = .ok (.iastore, 1) := by decide +kernel
theorem dX7_row_42 : decode cX7_row 42 = .ok (.aload_n 0, 1) := by decide +kernel
theorem dX7_row_43 : decode cX7_row 43 = .ok (.getfield 13, 3) := by decide +kernel
theorem dX7_row_46 : decode cX7_row 46 = .ok (.iload_n 1, 1) := by decide +kernel
theorem dX7_row_47 : decode cX7_row 47 = .ok (.iload_n 3, 1) := by decide +kernel
theorem dX7_row_48 : decode cX7_row 48 = .ok (.iastore, 1) := by decide +kernel
theorem dX7_row_49 : decode cX7_row 49 = .ok (.iconst 0, 1) := by decide +kernel
theorem dX7_row_50 : decode cX7_row 50 = .ok (.istore 4, 2) := by decide +kernel
theorem dX7_row_52 : decode cX7_row 52 = .ok (.iload 4, 2) := by decide +kernel
theorem dX7_row_54 : decode cX7_row 54 = .ok (.bipush 40, 2) := by decide +kernel
theorem dX7_row_56 : decode cX7_row 56 = .ok (.if_icmp .ge 22, 3) := by decide +kernel
theorem dX7_row_59 : decode cX7_row 59 = .ok (.aload_n 0, 1) := by decide +kernel
theorem dX7_row_60 : decode cX7_row 60 = .ok (.getfield 16, 3) := by decide +kernel
theorem dX7_row_63 : decode cX7_row 63 = .ok (.bipush 40, 2) := by decide +kernel
theorem dX7_row_65 : decode cX7_row 65 = .ok (.iload_n 1, 1) := by decide +kernel
theorem dX7_row_66 : decode cX7_row 66 = .ok (.imul, 1) := by decide +kernel
theorem dX7_row_67 : decode cX7_row 67 = .ok (.iload 4, 2) := by decide +kernel
theorem dX7_row_69 : decode cX7_row 69 = .ok (.iadd, 1) := by decide +kernel
theorem dX7_row_70 : decode cX7_row 70 = .ok (.iconst 0, 1) := by decide +kernel
theorem dX7_row_71 : decode cX7_row 71 = .ok (.iastore, 1) := by decide +kernel
theorem dX7_row_72 : decode cX7_row 72 = .ok (.iinc 4 1, 3) := by decide +kernel
theorem dX7_row_75 : decode cX7_row 75 = .ok (.goto (-23), 3) := by decide +kernel
theorem dX7_row_78 : decode cX7_row 78 = .ok (.aload_n 0, 1) := by decide +kernel
theorem dX7_row_79 : decode cX7_row 79 = .ok (.iload_n 3, 1) := by decide +kernel
theorem dX7_row_80 : decode cX7_row 80 = .ok (.invokevirtual 75, 3) := by decide +kernel
theorem dX7_row_83 : decode cX7_row 83 = .ok (.ireturn, 1) := by decide +kernel
theorem dX7_set_0 : decode cX7_set 0 = .ok (.iload_n 1, 1) := by decide +kernel
theorem dX7_set_1 : decode cX7_set 1 = .ok (.invokestatic 66, 3) := by decide +kernel
theorem dX7_set_4 : decode cX7_set 4 = .ok (.ifCond .ne 6, 3) := by decide +kernel
theorem dX7_set_7 : decode cX7_set 7 = .ok (.ldc 70, 2) := by decide +kernel
theorem dX7_set_9 : decode cX7_set 9 = .ok (.ireturn, 1) := by decide +kernel
theorem dX7_set_10 : decode cX7_set 10 = .ok (.aload_n 0, 1) := by decide +kernel
theorem dX7_set_11 : decode cX7_set 11 = .ok (.iload_n 1, 1) := by decide +kernel
theorem dX7_set_12 : decode cX7_set 12 = .ok (.invokevirtual 78, 3) := by decide +kernel
theorem dX7_set_15 : decode cX7_set 15 = .ok (.ifCond .eq 9, 3) := by decide +kernel
theorem dX7_set_18 : decode cX7_set 18 = .ok (.aload_n 0, 1) := by decide +kernel
theorem dX7_set_19 : decode cX7_set 19 = .ok (.iconst 1, 1) := by decide +kernel
theorem dX7_set_20 : decode cX7_set 20 = .ok (.invokevirtual 71, 3) := by decide +kernel
theorem dX7_set_23 : decode cX7_set 23 = .ok (.ireturn, 1) := by decide +kernel
theorem dX7_set_24 : decode cX7_set 24 = .ok (.iload_n 2, 1) := by decide +kernel
theorem dX7_set_25 : decode cX7_set 25 = .ok (.iconst 0, 1) := by decide +kernel
theorem dX7_set_26 : decode cX7_set 26 = .ok (.aload_n 0, 1) := by decide +kernel
theorem dX7_set_27 : decode cX7_set 27 = .ok (.getfield 13, 3) := by decide +kernel
theorem dX7_set_30 : decode cX7_set 30 = .ok (.iload_n 1, 1) := by decide +kernel
theorem dX7_set_31 : decode cX7_set 31 = .ok (.iaload, 1) := by decide +kernel
theorem dX7_set_32 : decode cX7_set 32 = .ok (.iconst 1, 1) := by decide +kernel
theorem dX7_set_33 : decode cX7_set 33 = .ok (.isub, 1) := by decide +kernel
theorem dX7_set_34 : decode cX7_set 34 = .ok (.invokestatic 62, 3) := by decide +kernel
theorem dX7_set_37 : decode cX7_set 37 = .ok (.ifCond .ne 9, 3) := by decide +kernel
theorem dX7_set_40 : decode cX7_set 40 = .ok (.aload_n 0, 1) := by decide +kernel
theorem dX7_set_41 : decode cX7_set 41 = .ok (.iconst 2, 1) := by decide +kernel
theorem dX7_set_42 : decode cX7_set 42 = .ok (.invokevirtual 71, 3) := by decide +kernel
theorem dX7_set_45 : decode cX7_set 45 = .ok (.ireturn, 1) := by decide +kernel
theorem dX7_set_46 : decode cX7_set 46 = .ok (.aload_n 0, 1) := by decide +kernel
theorem dX7_set_47 : decode cX7_set 47 = .ok (.getfield 16, 3) := by decide +kernel
theorem dX7_set_50 : decode cX7_set 50 = .ok (.bipush 40, 2) := by decide +kernel
theorem dX7_set_52 : decode cX7_set 52 = .ok (.iload_n 1, 1) := by decide +kernel
theorem dX7_set_53 : decode cX7_set 53 = .ok (.imul, 1) := by decide +kernel
theorem dX7_set_54 : decode cX7_set 54 = .ok (.iload_n 2, 1) := by decide +kernel
theorem dX7_set_55 : decode cX7_set 55 = .ok (.iadd, 1) := by decide +kernel
theorem dX7_set_56 : decode cX7_set 56 = .ok (.aload_n 0, 1) := by decide +kernel
theorem dX7_set_57 : decode cX7_set 57 = .ok (.getfield 7, 3) := by decide +kernel
theorem dX7_set_60 : decode cX7_set 60 = .ok (.iload_n 1, 1) := by decide +kernel
theorem dX7_set_61 : decode cX7_set 61 = .ok (.iaload, 1) := by decide +kernel
theorem dX7_set_62 : decode cX7_set 62 = .ok (.iload_n 3, 1) := by decide +kernel
theorem dX7_set_63 : decode cX7_set 63 = .ok (.invokestatic 81, 3) := by decide +kernel
theorem dX7_set_66 : decode cX7_set 66 = .ok (.iastore, 1) := by decide +kernel
theorem dX7_set_67 : decode cX7_set 67 = .ok (.aload_n 0, 1) := by decide +kernel
theorem dX7_set_68 : decode cX7_set 68 = .ok (.aload_n 0, 1) := by decide +kernel
theorem dX7_set_69 : decode cX7_set 69 = .ok (.getfield 16, 3) := by decide +kernel
theorem dX7_set_72 : decode cX7_set 72 = .ok (.bipush 40, 2) := by decide +kernel
theorem dX7_set_74 : decode cX7_set 74 = .ok (.iload_n 1, 1) := by decide +kernel
theorem dX7_set_75 : decode cX7_set 75 = .ok (.imul, 1) := by decide +kernel
theorem dX7_set_76 : decode cX7_set 76 = .ok (.iload_n 2, 1) := by decide +kernel
theorem dX7_set_77 : decode cX7_set 77 = .ok (.iadd, 1) := by decide +kernel
theorem dX7_set_78 : decode cX7_set 78 = .ok (.iaload, 1) := by decide +kernel
theorem dX7_set_79 : decode cX7_set 79 = .ok (.invokevirtual 75, 3) := by decide +kernel
theorem dX7_set_82 : decode cX7_set 82 = .ok (.ireturn, 1) := by decide +kernel
theorem dX7_isPart_0 : decode cX7_isPart 0 = .ok (.iload_n 2, 1) := by decide +kernel
theorem dX7_isPart_1 : decode cX7_isPart 1 = .ok (.ifCond .lt 33, 3) := by decide +kernel
theorem dX7_isPart_4 : decode cX7_isPart 4 = .ok (.iload_n 3, 1) := by decide +kernel
theorem dX7_isPart_5 : decode cX7_isPart 5 = .ok (.ifCond .lt 29, 3) := by decide +kernel
theorem dX7_isPart_8 : decode cX7_isPart 8 = .ok (.iload_n 2, 1) := by decide +kernel
theorem dX7_isPart_9 : decode cX7_isPart 9 = .ok (.aload_n 0, 1) := by decide +kernel
theorem dX7_isPart_10 : decode cX7_isPart 10 = .ok (.getfield 13, 3) := by decide +kernel
theorem dX7_isPart_13 : decode cX7_isPart 13 = .ok (.iload_n 1, 1) := by decide +kernel
theorem dX7_isPart_14 : decode cX7_isPart 14 = .ok (.iaload, 1) := by decide +kernel
theorem dX7_isPart_15 : decode cX7_isPart 15 = .ok (.if_icmp .gt 19, 3) := by decide +kernel
theorem dX7_isPart_18 : decode cX7_isPart 18 = .ok (.iload_n 3, 1) := by decide +kernel
theorem dX7_isPart_19 : decode cX7_isPart 19 = .ok (.aload_n 0, 1) := by decide +kernel
theorem dX7_isPart_20 : decode cX7_isPart 20 = .ok (.getfield 13, 3) := by decide +kernel
theorem dX7_isPart_23 : decode cX7_isPart 23 = .ok (.iload_n 1, 1) := by decide +kernel
theorem dX7_isPart_24 : decode cX7_isPart 24 = .ok (.iaload, 1) := by decide +kernel
theorem dX7_isPart_25 : decode cX7_isPart 25 = .ok (.iload_n 2, 1) := by decide +kernel
theorem dX7_isPart_26 : decode cX7_isPart 26 = .ok (.isub, 1) := by decide +kernel
theorem dX7_isPart_27 : decode cX7_isPart 27 = .ok (.if_icmp .gt 7, 3) := by decide +kernel
theorem dX7_isPart_30 : decode cX7_isPart 30 = .ok (.iconst 1, 1) := by decide +kernel
theorem dX7_isPart_31 : decode cX7_isPart 31 = .ok (.goto 4, 3) := by decide +kernel
theorem dX7_isPart_34 : decode cX7_isPart 34 = .ok (.iconst 0, 1) := by decide +kernel
theorem dX7_isPart_35 : decode cX7_isPart 35 = .ok (.ireturn, 1) := by decide +kernel
theorem dX7_copy_0 : decode cX7_copy 0 = .ok (.iload_n 1, 1) := by decide +kernel
theorem dX7_copy_1 : decode cX7_copy 1 = .ok (.invokestatic 66, 3) := by decide +kernel
theorem dX7_copy_4 : decode cX7_copy 4 = .ok (.ifCond .eq 10, 3) := by decide +kernel
theorem dX7_copy_7 : decode cX7_copy 7 = .ok (.iload_n 3, 1) := by decide +kernel
theorem dX7_copy_8 : decode cX7_copy 8 = .ok (.invokestatic 66, 3) := by decide +kernel
theorem dX7_copy_11 : decode cX7_copy 11 = .ok (.ifCond .ne 6, 3) := by decide +kernel
theorem dX7_copy_14 : decode cX7_copy 14 = .ok (.ldc 70, 2) := by decide +kernel
theorem dX7_copy_16 : decode cX7_copy 16 = .ok (.ireturn, 1) := by decide +kernel
theorem dX7_copy_17 : decode cX7_copy 17 = .ok (.aload_n 0, 1) := by decide +kernel
theorem dX7_copy_18 : decode cX7_copy 18 = .ok (.iload_n 1, 1) := by decide +kernel
theorem dX7_copy_19 : decode cX7_copy 19 = .ok (.invokevirtual 78, 3) := by decide +kernel
theorem dX7_copy_22 : decode cX7_copy 22 = .ok (.ifCond .ne 11, 3) := by decide +kernel
theorem dX7_copy_25 : decode cX7_copy 25 = .ok (.aload_n 0, 1) := by decide +kernel
theorem dX7_copy_26 : decode cX7_copy 26 = .ok (.iload_n 3, 1) := by decide +kernel
theorem dX7_copy_27 : decode cX7_copy 27 = .ok (.invokevirtual 78, 3) := by decide +kernel
theorem dX7_copy_30 : decode cX7_copy 30 = .ok (.ifCond .eq 9, 3) := by decide +kernel
theorem dX7_copy_33 : decode cX7_copy 33 = .ok (.aload_n 0, 1) := by decide +kernel
theorem dX7_copy_34 : decode cX7_copy 34 = .ok (.iconst 1, 1) := by decide +kernel
theorem dX7_copy_35 : decode cX7_copy 35 = .ok (.invokevirtual 71, 3) := by decide +kernel
theorem dX7_copy_38 : decode cX7_copy 38 = .ok (.ireturn, 1) := by decide +kernel
theorem dX7_copy_39 : decode cX7_copy 39 = .ok (.aload_n 0, 1) := by decide +kernel
theorem dX7_copy_40 : decode cX7_copy 40 = .ok (.getfield 7, 3) := by decide +kernel
theorem dX7_copy_43 : decode cX7_copy 43 = .ok (.iload_n 1, 1) := by decide +kernel
theorem dX7_copy_44 : decode cX7_copy 44 = .ok (.iaload, 1) := by decide +kernel
theorem dX7_copy_45 : decode cX7_copy 45 = .ok (.aload_n 0, 1) := by decide +kernel
theorem dX7_copy_46 : decode cX7_copy 46 = .ok (.getfield 7, 3) := by decide +kernel
theorem dX7_copy_49 : decode cX7_copy 49 = .ok (.iload_n 3, 1) := by decide +kernel
theorem dX7_copy_50 : decode cX7_copy 50 = .ok (.iaload, 1) := by decide +kernel
theorem dX7_copy_51 : decode cX7_copy 51 = .ok (.if_icmp .eq 9, 3) := by decide +kernel
theorem dX7_copy_54 : decode cX7_copy 54 = .ok (.aload_n 0, 1) := by decide +kernel
theorem dX7_copy_55 : decode cX7_copy 55 = .ok (.iconst 5, 1) := by decide +kernel
theorem dX7_copy_56 : decode cX7_copy 56 = .ok (.invokevirtual 71, 3) := by decide +kernel
theorem dX7_copy_59 : decode cX7_copy 59 = .ok (.ireturn, 1) := by decide +kernel
theorem dX7_copy_60 : decode cX7_copy 60 = .ok (.aload_n 0, 1) := by decide +kernel
theorem dX7_copy_61 : decode cX7_copy 61 = .ok (.iload_n 1, 1) := by decide +kernel
theorem dX7_copy_62 : decode cX7_copy 62 = .ok (.iload_n 2, 1) := by decide +kernel
theorem dX7_copy_63 : decode cX7_copy 63 = .ok (.iload 5, 2) := by decide +kernel
theorem dX7_copy_65 : decode cX7_copy 65 = .ok (.invokevirtual 85, 3) := by decide +kernel
theorem dX7_copy_68 : decode cX7_copy 68 = .ok (.ifCond .eq 15, 3) := by decide +kernel
theorem dX7_copy_71 : decode cX7_copy 71 = .ok (.aload_n 0, 1) := by decide +kernel
theorem dX7_copy_72 : decode cX7_copy 72 = .ok (.iload_n 3, 1) := by decide +kernel
theorem dX7_copy_73 : decode cX7_copy 73 = .ok (.iload 4, 2) := by decide +kernel
theorem dX7_copy_75 : decode cX7_copy 75 = .ok (.iload 5, 2) := by decide +kernel
theorem dX7_copy_77 : decode cX7_copy 77 = .ok (.invokevirtual 85, 3) := by decide +kernel
theorem dX7_copy_80 : decode cX7_copy 80 = .ok (.ifCond .ne 9, 3) := by decide +kernel
theorem dX7_copy_83 : decode cX7_copy 83 = .ok (.aload_n 0, 1) := by decide +kernel
theorem dX7_copy_84 : decode cX7_copy 84 = .ok (.iconst 2, 1) := by decide +kernel
theorem dX7_copy_85 : decode cX7_copy 85 = .ok (.invokevirtual 71, 3) := by decide +kernel
theorem dX7_copy_88 : decode cX7_copy 88 = .ok (.ireturn, 1) := by decide +kernel
theorem dX7_copy_89 : decode cX7_copy 89 = .ok (.iconst 0, 1) := by decide +kernel
theorem dX7_copy_90 : decode cX7_copy 90 = .ok (.istore 6, 2) := by decide +kernel
theorem dX7_copy_92 : decode cX7_copy 92 = .ok (.iload 6, 2) := by decide +kernel
theorem dX7_copy_94 : decode cX7_copy 94 = .ok (.iload 5, 2) := by decide +kernel
theorem dX7_copy_96 : decode cX7_copy 96 = .ok (.if_icmp .ge 30, 3) := by decide +kernel
theorem dX7_copy_99 : decode cX7_copy 99 = .ok (.aload_n 0, 1) := by decide +kernel
theorem dX7_copy_100 : decode cX7_copy 100 = .ok (.getfield 19, 3) := by decide +kernel
theorem dX7_copy_103 : decode cX7_copy 103 = .ok (.iload 6, 2) := by decide +kernel
theorem dX7_copy_105 : decode cX7_copy 105 = .ok (.aload_n 0, 1) := by decide +kernel
theorem dX7_copy_106 : decode cX7_copy 106 = .ok (.getfield 16, 3) := by decide +kernel
theorem dX7_copy_109 : decode cX7_copy 109 = .ok (.bipush 40, 2) := by decide +kernel
theorem dX7_copy_111 : decode cX7_copy 111 = .ok (.iload_n 1, 1) := by decide +kernel
theorem dX7_copy_112 : decode cX7_copy 112 = .ok (.imul, 1) := by decide +kernel
theorem dX7_copy_113 : decode cX7_copy 113 = .ok (.iload_n 2, 1) := by decide +kernel
theorem dX7_copy_114 : decode cX7_copy 114 = .ok (.iadd, 1) := by decide +kernel
theorem dX7_copy_115 : decode cX7_copy 115 = .ok (.iload 6, 2) := by decide +kernel
theorem dX7_copy_117 : decode cX7_copy 117 = .ok (.iadd, 1) := by decide +kernel
theorem dX7_copy_118 : decode cX7_copy 118 = .ok (.iaload, 1) := by decide +kernel
theorem dX7_copy_119 : decode cX7_copy 119 = .ok (.iastore, 1) := by decide +kernel
theorem dX7_copy_120 : decode cX7_copy 120 = .ok (.iinc 6 1, 3) := by decide +kernel
theorem dX7_copy_123 : decode cX7_copy 123 = .ok (.goto (-31), 3) := by decide +kernel
theorem dX7_copy_126 : decode cX7_copy 126 = .ok (.iconst 0, 1) := by decide +kernel
theorem dX7_copy_127 : decode cX7_copy 127 = .ok (.istore 6, 2) := by decide +kernel
theorem dX7_copy_129 : decode cX7_copy 129 = .ok (.iload 6, 2) := by decide +kernel
theorem dX7_copy_131 : decode cX7_copy 131 = .ok (.iload 5, 2) := by decide +kernel
theorem dX7_copy_133 : decode cX7_copy 133 = .ok (.if_icmp .ge 31, 3) := by decide +kernel
theorem dX7_copy_136 : decode cX7_copy 136 = .ok (.aload_n 0, 1) := by decide +kernel
theorem dX7_copy_137 : decode cX7_copy 137 = .ok (.getfield 16, 3) := by decide +kernel
theorem dX7_copy_140 : decode cX7_copy 140 = .ok (.bipush 40, 2) := by decide +kernel
theorem dX7_copy_142 : decode cX7_copy 142 = .ok (.iload_n 3, 1) := by decide +kernel
theorem dX7_copy_143 : decode cX7_copy 143 = .ok (.imul, 1) := by decide +kernel
theorem dX7_copy_144 : decode cX7_copy 144 = .ok (.iload 4, 2) := by decide +kernel
theorem dX7_copy_146 : decode cX7_copy 146 = .ok (.iadd, 1) := by decide +kernel
theorem dX7_copy_147 : decode cX7_copy 147 = .ok (.iload 6, 2) := by decide +kernel
theorem dX7_copy_149 : decode cX7_copy 149 = .ok (.iadd, 1) := by decide +kernel
theorem dX7_copy_150 : decode cX7_copy 150 = .ok (.aload_n 0, 1) := by decide +kernel
theorem dX7_copy_151 : decode cX7_copy 151 = .ok (.getfield 19, 3) := by decide +kernel
theorem dX7_copy_154 : decode cX7_copy 154 = .ok (.iload 6, 2) := by decide +kernel
theorem dX7_copy_156 : decode cX7_copy 156 = .ok (.iaload, 1) := by decide +kernel
theorem dX7_copy_157 : decode cX7_copy 157 = .ok (.iastore, 1) := by decide +kernel
theorem dX7_copy_158 : decode cX7_copy 158 = .ok (.iinc 6 1, 3) := by decide +kernel
theorem dX7_copy_161 : decode cX7_copy 161 = .ok (.goto (-32), 3) := by decide +kernel
theorem dX7_copy_164 : decode cX7_copy 164 = .ok (.aload_n 0, 1) := by decide +kernel
theorem dX7_copy_165 : decode cX7_copy 165 = .ok (.iload 5, 2) := by decide +kernel
theorem dX7_copy_167 : decode cX7_copy 167 = .ok (.invokevirtual 75, 3) := by decide +kernel
theorem dX7_copy_170 : decode cX7_copy 170 = .ok (.ireturn, 1) := by decide +kernel
theorem dX7_drop_0 : decode cX7_drop 0 = .ok (.iload_n 1, 1) := by decide +kernel
theorem dX7_drop_1 : decode cX7_drop 1 = .ok (.invokestatic 66, 3) := by decide +kernel
theorem dX7_drop_4 : decode cX7_drop 4 = .ok (.ifCond .ne 6, 3) := by decide +kernel
theorem dX7_drop_7 : decode cX7_drop 7 = .ok (.ldc 70, 2) := by decide +kernel
theorem dX7_drop_9 : decode cX7_drop 9 = .ok (.ireturn, 1) := by decide +kernel
theorem dX7_drop_10 : decode cX7_drop 10 = .ok (.aload_n 0, 1) := by decide +kernel
theorem dX7_drop_11 : decode cX7_drop 11 = .ok (.iload_n 1, 1) := by decide +kernel
theorem dX7_drop_12 : decode cX7_drop 12 = .ok (.invokevirtual 78, 3) := by decide +kernel
theorem dX7_drop_15 : decode cX7_drop 15 = .ok (.ifCond .eq 9, 3) := by decide +kernel
theorem dX7_drop_18 : decode cX7_drop 18 = .ok (.aload_n 0, 1) := by decide +kernel
theorem dX7_drop_19 : decode cX7_drop 19 = .ok (.iconst 1, 1) := by decide +kernel
theorem dX7_drop_20 : decode cX7_drop 20 = .ok (.invokevirtual 71, 3) := by decide +kernel
theorem dX7_drop_23 : decode cX7_drop 23 = .ok (.ireturn, 1) := by decide +kernel
theorem dX7_drop_24 : decode cX7_drop 24 = .ok (.aload_n 0, 1) := by decide +kernel
theorem dX7_drop_25 : decode cX7_drop 25 = .ok (.getfield 7, 3) := by decide +kernel
theorem dX7_drop_28 : decode cX7_drop 28 = .ok (.iload_n 1, 1) := by decide +kernel
theorem dX7_drop_29 : decode cX7_drop 29 = .ok (.ldc 56, 2) := by decide +kernel
theorem dX7_drop_31 : decode cX7_drop 31 = .ok (.iastore, 1) := by decide +kernel
theorem dX7_drop_32 : decode cX7_drop 32 = .ok (.aload_n 0, 1) := by decide +kernel
theorem dX7_drop_33 : decode cX7_drop 33 = .ok (.aload_n 0, 1) := by decide +kernel
theorem dX7_drop_34 : decode cX7_drop 34 = .ok (.getfield 13, 3) := by decide +kernel
theorem dX7_drop_37 : decode cX7_drop 37 = .ok (.iload_n 1, 1) := by decide +kernel
theorem dX7_drop_38 : decode cX7_drop 38 = .ok (.iaload, 1) := by decide +kernel
theorem dX7_drop_39 : decode cX7_drop 39 = .ok (.invokevirtual 75, 3) := by decide +kernel
theorem dX7_drop_42 : decode cX7_drop 42 = .ok (.ireturn, 1) := by decide +kernel
theorem dX7_feed_0 : decode cX7_feed 0 = .ok (.iload_n 1, 1) := by decide +kernel
theorem dX7_feed_1 : decode cX7_feed 1 = .ok (.iconst 0, 1) := by decide +kernel
theorem dX7_feed_2 : decode cX7_feed 2 = .ok (.sipush 255, 3) := by decide +kernel
theorem dX7_feed_5 : decode cX7_feed 5 = .ok (.invokestatic 62, 3) := by decide +kernel
theorem dX7_feed_8 : decode cX7_feed 8 = .ok (.ifCond .ne 6, 3) := by decide +kernel
theorem dX7_feed_11 : decode cX7_feed 11 = .ok (.ldc 70, 2) := by decide +kernel
theorem dX7_feed_13 : decode cX7_feed 13 = .ok (.ireturn, 1) := by decide +kernel
theorem dX7_feed_14 : decode cX7_feed 14 = .ok (.aload_n 0, 1) := by decide +kernel
theorem dX7_feed_15 : decode cX7_feed 15 = .ok (.getfield 88, 3) := by decide +kernel
theorem dX7_feed_18 : decode cX7_feed 18 = .ok (.sipush 130, 3) := by decide +kernel
theorem dX7_feed_21 : decode cX7_feed 21 = .ok (.if_icmp .ne 6, 3) := by decide +kernel
theorem dX7_feed_24 : decode cX7_feed 24 = .ok (.ldc 91, 2) := by decide +kernel
theorem dX7_feed_26 : decode cX7_feed 26 = .ok (.ireturn, 1) := by decide +kernel
theorem dX7_feed_27 : decode cX7_feed 27 = .ok (.aload_n 0, 1) := by decide +kernel
theorem dX7_feed_28 : decode cX7_feed 28 = .ok (.getfield 22, 3) := by decide +kernel
theorem dX7_feed_31 : decode cX7_feed 31 = .ok (.aload_n 0, 1) := by decide +kernel
theorem dX7_feed_32 : decode cX7_feed 32 = .ok (.getfield 88, 3) := by decide +kernel
theorem dX7_feed_35 : decode cX7_feed 35 = .ok (.iload_n 1, 1) := by decide +kernel
theorem dX7_feed_36 : decode cX7_feed 36 = .ok (.iastore, 1) := by decide +kernel
theorem dX7_feed_37 : decode cX7_feed 37 = .ok (.aload_n 0, 1) := by decide +kernel
theorem dX7_feed_38 : decode cX7_feed 38 = .ok (.dup, 1) := by decide +kernel
theorem dX7_feed_39 : decode cX7_feed 39 = .ok (.getfield 88, 3) := by decide +kernel
theorem dX7_feed_42 : decode cX7_feed 42 = .ok (.iconst 1, 1) := by decide +kernel
theorem dX7_feed_43 : decode cX7_feed 43 = .ok (.iadd, 1) := by decide +kernel
theorem dX7_feed_44 : decode cX7_feed 44 = .ok (.putfield 88, 3) := by decide +kernel
theorem dX7_feed_47 : decode cX7_feed 47 = .ok (.aload_n 0, 1) := by decide +kernel
theorem dX7_feed_48 : decode cX7_feed 48 = .ok (.getfield 88, 3) := by decide +kernel
theorem dX7_feed_51 : decode cX7_feed 51 = .ok (.ireturn, 1) := by decide +kernel
theorem dX7_byteAt_0 : decode cX7_byteAt 0 = .ok (.iload_n 1, 1) := by decide +kernel
theorem dX7_byteAt_1 : decode cX7_byteAt 1 = .ok (.aload_n 0, 1) := by decide +kernel
theorem dX7_byteAt_2 : decode cX7_byteAt 2 = .ok (.getfield 88, 3) := by decide +kernel
theorem dX7_byteAt_5 : decode cX7_byteAt 5 = .ok (.if_icmp .ge 12, 3) := by decide +kernel
theorem dX7_byteAt_8 : decode cX7_byteAt 8 = .ok (.aload_n 0, 1) := by decide +kernel
theorem dX7_byteAt_9 : decode cX7_byteAt 9 = .ok (.getfield 22, 3) := by decide +kernel
theorem dX7_byteAt_12 : decode cX7_byteAt 12 = .ok (.iload_n 1, 1) := by decide +kernel
theorem dX7_byteAt_13 : decode cX7_byteAt 13 = .ok (.iaload, 1) := by decide +kernel
theorem dX7_byteAt_14 : decode cX7_byteAt 14 = .ok (.goto 4, 3) := by decide +kernel
theorem dX7_byteAt_17 : decode cX7_byteAt 17 = .ok (.iconst (-1), 1) := by decide +kernel
theorem dX7_byteAt_18 : decode cX7_byteAt 18 = .ok (.ireturn, 1) := by decide +kernel
theorem dX7_advances_0 : decode cX7_advances 0 = .ok (.aload_n 0, 1) := by decide +kernel
theorem dX7_advances_1 : decode cX7_advances 1 = .ok (.aload_n 0, 1) := by decide +kernel
theorem dX7_advances_2 : decode cX7_advances 2 = .ok (.getfield 92, 3) := by decide +kernel
theorem dX7_advances_5 : decode cX7_advances 5 = .ok (.putfield 95, 3) := by decide +kernel
theorem dX7_advances_8 : decode cX7_advances 8 = .ok (.aload_n 0, 1) := by decide +kernel
theorem dX7_advances_9 : decode cX7_advances 9 = .ok (.aload_n 0, 1) := by decide +kernel
theorem dX7_advances_10 : decode cX7_advances 10 = .ok (.getfield 92, 3) := by decide +kernel
theorem dX7_advances_13 : decode cX7_advances 13 = .ok (.invokevirtual 98, 3) := by decide +kernel
theorem dX7_advances_16 : decode cX7_advances 16 = .ok (.istore_n 1, 1) := by decide +kernel
theorem dX7_advances_17 : decode cX7_advances 17 = .ok (.aload_n 0, 1) := by decide +kernel
theorem dX7_advances_18 : decode cX7_advances 18 = .ok (.iload_n 1, 1) := by decide +kernel
theorem dX7_advances_19 : decode cX7_advances 19 = .ok (.putfield 101, 3) := by decide +kernel
theorem dX7_advances_22 : decode cX7_advances 22 = .ok (.iload_n 1, 1) := by decide +kernel
theorem dX7_advances_23 : decode cX7_advances 23 = .ok (.bipush 48, 2) := by decide +kernel
theorem dX7_advances_25 : decode cX7_advances 25 = .ok (.bipush 57, 2) := by decide +kernel
theorem dX7_advances_27 : decode cX7_advances 27 = .ok (.invokestatic 62, 3) := by decide +kernel
theorem dX7_advances_30 : decode cX7_advances 30 = .ok (.ifCond .eq 105, 3) := by decide +kernel
theorem dX7_advances_33 : decode cX7_advances 33 = .ok (.aload_n 0, 1) := by decide +kernel
theorem dX7_advances_34 : decode cX7_advances 34 = .ok (.iconst 0, 1) := by decide +kernel
theorem dX7_advances_35 : decode cX7_advances 35 = .ok (.putfield 101, 3) := by decide +kernel
theorem dX7_advances_38 : decode cX7_advances 38 = .ok (.aload_n 0, 1) := by decide +kernel
theorem dX7_advances_39 : decode cX7_advances 39 = .ok (.aload_n 0, 1) := by decide +kernel
theorem dX7_advances_40 : decode cX7_advances 40 = .ok (.getfield 92, 3) := by decide +kernel
theorem dX7_advances_43 : decode cX7_advances 43 = .ok (.invokevirtual 98, 3) := by decide +kernel
theorem dX7_advances_46 : decode cX7_advances 46 = .ok (.bipush 48, 2) := by decide +kernel
theorem dX7_advances_48 : decode cX7_advances 48 = .ok (.bipush 57, 2) := by decide +kernel
theorem dX7_advances_50 : decode cX7_advances 50 = .ok (.invokestatic 62, 3) := by decide +kernel
theorem dX7_advances_53 : decode cX7_advances 53 = .ok (.ifCond .eq 59, 3) := by decide +kernel
theorem dX7_advances_56 : decode cX7_advances 56 = .ok (.aload_n 0, 1) := by decide +kernel
theorem dX7_advances_57 : decode cX7_advances 57 = .ok (.aload_n 0, 1) := by decide +kernel
theorem dX7_advances_58 : decode cX7_advances 58 = .ok (.getfield 92, 3) := by decide +kernel
theorem dX7_advances_61 : decode cX7_advances 61 = .ok (.aload_n 0, 1) := by decide +kernel
theorem dX7_advances_62 : decode cX7_advances 62 = .ok (.getfield 95, 3) := by decide +kernel
theorem dX7_advances_65 : decode cX7_advances 65 = .ok (.isub, 1) := by decide +kernel
theorem dX7_advances_66 : decode cX7_advances 66 = .ok (.iconst 2, 1) := by decide +kernel
theorem dX7_advances_67 : decode cX7_advances 67 = .ok (.if_icmp .ge 25, 3) := by decide +kernel
theorem dX7_advances_70 : decode cX7_advances 70 = .ok (.bipush 10, 2) := by decide +kernel
theorem dX7_advances_72 : decode cX7_advances 72 = .ok (.aload_n 0, 1) := by decide +kernel
theorem dX7_advances_73 : decode cX7_advances 73 = .ok (.getfield 101, 3) := by decide +kernel
theorem dX7_advances_76 : decode cX7_advances 76 = .ok (.imul, 1) := by decide +kernel
theorem dX7_advances_77 : decode cX7_advances 77 = .ok (.aload_n 0, 1) := by decide +kernel
theorem dX7_advances_78 : decode cX7_advances 78 = .ok (.aload_n 0, 1) := by decide +kernel
theorem dX7_advances_79 : decode cX7_advances 79 = .ok (.getfield 92, 3) := by decide +kernel
theorem dX7_advances_82 : decode cX7_advances 82 = .ok (.invokevirtual 98, 3) := by decide +kernel
theorem dX7_advances_85 : decode cX7_advances 85 = .ok (.iadd, 1) := by decide +kernel
theorem dX7_advances_86 : decode cX7_advances 86 = .ok (.bipush 48, 2) := by decide +kernel
theorem dX7_advances_88 : decode cX7_advances 88 = .ok (.isub, 1) := by decide +kernel
theorem dX7_advances_89 : decode cX7_advances 89 = .ok (.goto 7, 3) := by decide +kernel
theorem dX7_advances_92 : decode cX7_advances 92 = .ok (.aload_n 0, 1) := by decide +kernel
theorem dX7_advances_93 : decode cX7_advances 93 = .ok (.getfield 101, 3) := by decide +kernel
theorem dX7_advances_96 : decode cX7_advances 96 = .ok (.putfield 101, 3) := by decide +kernel
theorem dX7_advances_99 : decode cX7_advances 99 = .ok (.aload_n 0, 1) := by decide +kernel
theorem dX7_advances_100 : decode cX7_advances 100 = .ok (.dup, 1) := by decide +kernel
theorem dX7_advances_101 : decode cX7_advances 101 = .ok (.getfield 92, 3) := by decide +kernel
theorem dX7_advances_104 : decode cX7_advances 104 = .ok (.iconst 1, 1) := by decide +kernel
theorem dX7_advances_105 : decode cX7_advances 105 = .ok (.iadd, 1) := by decide +kernel
theorem dX7_advances_106 : decode cX7_advances 106 = .ok (.putfield 92, 3) := by decide +kernel
theorem dX7_advances_109 : decode cX7_advances 109 = .ok (.goto (-71), 3) := by decide +kernel
theorem dX7_advances_112 : decode cX7_advances 112 = .ok (.aload_n 0, 1) := by decide +kernel
theorem dX7_advances_113 : decode cX7_advances 113 = .ok (.aload_n 0, 1) := by decide +kernel
theorem dX7_advances_114 : decode cX7_advances 114 = .ok (.getfield 92, 3) := by decide +kernel
theorem dX7_advances_117 : decode cX7_advances 117 = .ok (.aload_n 0, 1) := by decide +kernel
theorem dX7_advances_118 : decode cX7_advances 118 = .ok (.getfield 95, 3) := by decide +kernel
theorem dX7_advances_121 : decode cX7_advances 121 = .ok (.isub, 1) := by decide +kernel
theorem dX7_advances_122 : decode cX7_advances 122 = .ok (.iconst 3, 1) := by decide +kernel
theorem dX7_advances_123 : decode cX7_advances 123 = .ok (.if_icmp .ge 7, 3) := by decide +kernel
theorem dX7_advances_126 : decode cX7_advances 126 = .ok (.iconst 2, 1) := by decide +kernel
theorem dX7_advances_127 : decode cX7_advances 127 = .ok (.goto 4, 3) := by decide +kernel
theorem dX7_advances_130 : decode cX7_advances 130 = .ok (.iconst 5, 1) := by decide +kernel
theorem dX7_advances_131 : decode cX7_advances 131 = .ok (.putfield 104, 3) := by decide +kernel
theorem dX7_advances_134 : decode cX7_advances 134 = .ok (.return_, 1) := by decide +kernel
theorem dX7_advances_135 : decode cX7_advances 135 = .ok (.aload_n 0, 1) := by decide +kernel
theorem dX7_advances_136 : decode cX7_advances 136 = .ok (.iload_n 1, 1) := by decide +kernel
theorem dX7_advances_137 : decode cX7_advances 137 = .ok (.ifCond .ge 7, 3) := by decide +kernel
theorem dX7_advances_140 : decode cX7_advances 140 = .ok (.iconst 0, 1) := by decide +kernel
theorem dX7_advances_141 : decode cX7_advances 141 = .ok (.goto 39, 3) := by decide +kernel
theorem dX7_advances_144 : decode cX7_advances 144 = .ok (.iload_n 1, 1) := by decide +kernel
theorem dX7_advances_145 : decode cX7_advances 145 = .ok (.bipush 97, 2) := by decide +kernel
theorem dX7_advances_147 : decode cX7_advances 147 = .ok (.bipush 122, 2) := by decide +kernel
theorem dX7_advances_149 : decode cX7_advances 149 = .ok (.invokestatic 62, 3) := by decide +kernel
theorem dX7_advances_152 : decode cX7_advances 152 = .ok (.ifCond .eq 7, 3) := by decide +kernel
theorem dX7_advances_155 : decode cX7_advances 155 = .ok (.iconst 1, 1) := by decide +kernel
theorem dX7_advances_156 : decode cX7_advances 156 = .ok (.goto 24, 3) := by decide +kernel
theorem dX7_advances_159 : decode cX7_advances 159 = .ok (.iload_n 1, 1) := by decide +kernel
theorem dX7_advances_160 : decode cX7_advances 160 = .ok (.bipush 44, 2) := by decide +kernel
theorem dX7_advances_162 : decode cX7_advances 162 = .ok (.if_icmp .ne 7, 3) := by decide +kernel
theorem dX7_advances_165 : decode cX7_advances 165 = .ok (.iconst 3, 1) := by decide +kernel
theorem dX7_advances_166 : decode cX7_advances 166 = .ok (.goto 14, 3) := by decide +kernel
theorem dX7_advances_169 : decode cX7_advances 169 = .ok (.iload_n 1, 1) := by decide +kernel
theorem dX7_advances_170 : decode cX7_advances 170 = .ok (.bipush 59, 2) := by decide +kernel
theorem dX7_advances_172 : decode cX7_advances 172 = .ok (.if_icmp .ne 7, 3) := by decide +kernel
theorem dX7_advances_175 : decode cX7_advances 175 = .ok (.iconst 4, 1) := by decide +kernel
theorem dX7_advances_176 : decode cX7_advances 176 = .ok (.goto 4, 3) := by decide +kernel
theorem dX7_advances_179 : decode cX7_advances 179 = .ok (.iconst 5, 1) := by decide +kernel
theorem dX7_advances_180 : decode cX7_advances 180 = .ok (.putfield 104, 3) := by decide +kernel
theorem dX7_advances_183 : decode cX7_advances 183 = .ok (.aload_n 0, 1) := by decide +kernel
theorem dX7_advances_184 : decode cX7_advances 184 = .ok (.dup, 1) := by decide +kernel
theorem dX7_advances_185 : decode cX7_advances 185 = .ok (.getfield 92, 3) := by decide +kernel
theorem dX7_advances_188 : decode cX7_advances 188 = .ok (.aload_n 0, 1) := by decide +kernel
theorem dX7_advances_189 : decode cX7_advances 189 = .ok (.getfield 104, 3) := by decide +kernel
theorem dX7_advances_192 : decode cX7_advances 192 = .ok (.ifCond .ne 7, 3) := by decide +kernel
theorem dX7_advances_195 : decode cX7_advances 195 = .ok (.iconst 0, 1) := by decide +kernel
theorem dX7_advances_196 : decode cX7_advances 196 = .ok (.goto 4, 3) := by decide +kernel
theorem dX7_advances_199 : decode cX7_advances 199 = .ok (.iconst 1, 1) := by decide +kernel
theorem dX7_advances_200 : decode cX7_advances 200 = .ok (.iadd, 1) := by decide +kernel
theorem dX7_advances_201 : decode cX7_advances 201 = .ok (.putfield 92, 3) := by decide +kernel
theorem dX7_advances_204 : decode cX7_advances 204 = .ok (.return_, 1) := by decide +kernel
theorem dX7_isWell_0 : decode cX7_isWell 0 = .ok (.aload_n 0, 1) := by decide +kernel
theorem dX7_isWell_1 : decode cX7_isWell 1 = .ok (.getfield 107, 3) := by decide +kernel
theorem dX7_isWell_4 : decode cX7_isWell 4 = .ok (.ifCond .ge 7, 3) := by decide +kernel
theorem dX7_isWell_7 : decode cX7_isWell 7 = .ok (.iconst 1, 1) := by decide +kernel
theorem dX7_isWell_8 : decode cX7_isWell 8 = .ok (.goto 4, 3) := by decide +kernel
theorem dX7_isWell_11 : decode cX7_isWell 11 = .ok (.iconst 0, 1) := by decide +kernel
theorem dX7_isWell_12 : decode cX7_isWell 12 = .ok (.ireturn, 1) := by decide +kernel
theorem dX7_takes_0 : decode cX7_takes 0 = .ok (.aload_n 0, 1) := by decide +kernel
theorem dX7_takes_1 : decode cX7_takes 1 = .ok (.invokevirtual 110, 3) := by decide +kernel
theorem dX7_takes_4 : decode cX7_takes 4 = .ok (.ifCond .ne 5, 3) := by decide +kernel
theorem dX7_takes_7 : decode cX7_takes 7 = .ok (.iconst 0, 1) := by decide +kernel
theorem dX7_takes_8 : decode cX7_takes 8 = .ok (.ireturn, 1) := by decide +kernel
theorem dX7_takes_9 : decode cX7_takes 9 = .ok (.iload_n 1, 1) := by decide +kernel
theorem dX7_takes_10 : decode cX7_takes 10 = .ok (.ifCond .ne 18, 3) := by decide +kernel
theorem dX7_takes_13 : decode cX7_takes 13 = .ok (.aload_n 0, 1) := by decide +kernel
theorem dX7_takes_14 : decode cX7_takes 14 = .ok (.aload_n 0, 1) := by decide +kernel
theorem dX7_takes_15 : decode cX7_takes 15 = .ok (.getfield 95, 3) := by decide +kernel
theorem dX7_takes_18 : decode cX7_takes 18 = .ok (.putfield 107, 3) := by decide +kernel
theorem dX7_takes_21 : decode cX7_takes 21 = .ok (.aload_n 0, 1) := by decide +kernel
theorem dX7_takes_22 : decode cX7_takes 22 = .ok (.iload_n 2, 1) := by decide +kernel
theorem dX7_takes_23 : decode cX7_takes 23 = .ok (.putfield 114, 3) := by decide +kernel
theorem dX7_takes_26 : decode cX7_takes 26 = .ok (.iconst 0, 1) := by decide +kernel
theorem dX7_takes_27 : decode cX7_takes 27 = .ok (.ireturn, 1) := by decide +kernel
theorem dX7_takes_28 : decode cX7_takes 28 = .ok (.aload_n 0, 1) := by decide +kernel
theorem dX7_takes_29 : decode cX7_takes 29 = .ok (.getfield 101, 3) := by decide +kernel
theorem dX7_takes_32 : decode cX7_takes 32 = .ok (.istore_n 3, 1) := by decide +kernel
theorem dX7_takes_33 : decode cX7_takes 33 = .ok (.aload_n 0, 1) := by decide +kernel
theorem dX7_takes_34 : decode cX7_takes 34 = .ok (.invokevirtual 117, 3) := by decide +kernel
theorem dX7_takes_37 : decode cX7_takes 37 = .ok (.iload_n 3, 1) := by decide +kernel
theorem dX7_takes_38 : decode cX7_takes 38 = .ok (.ireturn, 1) := by decide +kernel
theorem dX7_figure_0 : decode cX7_figure 0 = .ok (.aload_n 0, 1) := by decide +kernel
theorem dX7_figure_1 : decode cX7_figure 1 = .ok (.invokevirtual 110, 3) := by decide +kernel
theorem dX7_figure_4 : decode cX7_figure 4 = .ok (.ifCond .eq 18, 3) := by decide +kernel
theorem dX7_figure_7 : decode cX7_figure 7 = .ok (.aload_n 0, 1) := by decide +kernel
theorem dX7_figure_8 : decode cX7_figure 8 = .ok (.getfield 104, 3) := by decide +kernel
theorem dX7_figure_11 : decode cX7_figure 11 = .ok (.iconst 2, 1) := by decide +kernel
theorem dX7_figure_12 : decode cX7_figure 12 = .ok (.if_icmp .eq 10, 3) := by decide +kernel
theorem dX7_figure_15 : decode cX7_figure 15 = .ok (.aload_n 0, 1) := by decide +kernel
theorem dX7_figure_16 : decode cX7_figure 16 = .ok (.iconst 0, 1) := by decide +kernel
theorem dX7_figure_17 : decode cX7_figure 17 = .ok (.iconst 1, 1) := by decide +kernel
theorem dX7_figure_18 : decode cX7_figure 18 = .ok (.invokevirtual 120, 3) := by decide +kernel
theorem dX7_figure_21 : decode cX7_figure 21 = .ok (.ireturn, 1) := by decide +kernel
theorem dX7_figure_22 : decode cX7_figure 22 = .ok (.aload_n 0, 1) := by decide +kernel
theorem dX7_figure_23 : decode cX7_figure 23 = .ok (.aload_n 0, 1) := by decide +kernel
theorem dX7_figure_24 : decode cX7_figure 24 = .ok (.getfield 101, 3) := by decide +kernel
theorem dX7_figure_27 : decode cX7_figure 27 = .ok (.iload_n 1, 1) := by decide +kernel
theorem dX7_figure_28 : decode cX7_figure 28 = .ok (.iload_n 2, 1) := by decide +kernel
theorem dX7_figure_29 : decode cX7_figure 29 = .ok (.invokestatic 62, 3) := by decide +kernel
theorem dX7_figure_32 : decode cX7_figure 32 = .ok (.iconst 2, 1) := by decide +kernel
theorem dX7_figure_33 : decode cX7_figure 33 = .ok (.invokevirtual 120, 3) := by decide +kernel
theorem dX7_figure_36 : decode cX7_figure 36 = .ok (.ireturn, 1) := by decide +kernel
theorem dX7_kindOf_0 : decode cX7_kindOf 0 = .ok (.iload_n 0, 1) := by decide +kernel
theorem dX7_kindOf_1 : decode cX7_kindOf 1 = .ok (.bipush 97, 2) := by decide +kernel
theorem dX7_kindOf_3 : decode cX7_kindOf 3 = .ok (.if_icmp .ne 7, 3) := by decide +kernel
theorem dX7_kindOf_6 : decode cX7_kindOf 6 = .ok (.iconst 1, 1) := by decide +kernel
theorem dX7_kindOf_7 : decode cX7_kindOf 7 = .ok (.goto 44, 3) := by decide +kernel
theorem dX7_kindOf_10 : decode cX7_kindOf 10 = .ok (.iload_n 0, 1) := by decide +kernel
theorem dX7_kindOf_11 : decode cX7_kindOf 11 = .ok (.bipush 114, 2) := by decide +kernel
theorem dX7_kindOf_13 : decode cX7_kindOf 13 = .ok (.if_icmp .ne 7, 3) := by decide +kernel
theorem dX7_kindOf_16 : decode cX7_kindOf 16 = .ok (.iconst 2, 1) := by decide +kernel
theorem dX7_kindOf_17 : decode cX7_kindOf 17 = .ok (.goto 34, 3) := by decide +kernel
theorem dX7_kindOf_20 : decode cX7_kindOf 20 = .ok (.iload_n 0, 1) := by decide +kernel
theorem dX7_kindOf_21 : decode cX7_kindOf 21 = .ok (.bipush 116, 2) := by decide +kernel
theorem dX7_kindOf_23 : decode cX7_kindOf 23 = .ok (.if_icmp .ne 7, 3) := by decide +kernel
theorem dX7_kindOf_26 : decode cX7_kindOf 26 = .ok (.iconst 3, 1) := by decide +kernel
theorem dX7_kindOf_27 : decode cX7_kindOf 27 = .ok (.goto 24, 3) := by decide +kernel
theorem dX7_kindOf_30 : decode cX7_kindOf 30 = .ok (.iload_n 0, 1) := by decide +kernel
theorem dX7_kindOf_31 : decode cX7_kindOf 31 = .ok (.bipush 111, 2) := by decide +kernel
theorem dX7_kindOf_33 : decode cX7_kindOf 33 = .ok (.if_icmp .ne 7, 3) := by decide +kernel
theorem dX7_kindOf_36 : decode cX7_kindOf 36 = .ok (.iconst 4, 1) := by decide +kernel
theorem dX7_kindOf_37 : decode cX7_kindOf 37 = .ok (.goto 14, 3) := by decide +kernel
theorem dX7_kindOf_40 : decode cX7_kindOf 40 = .ok (.iload_n 0, 1) := by decide +kernel
theorem dX7_kindOf_41 : decode cX7_kindOf 41 = .ok (.bipush 98, 2) := by decide +kernel
theorem dX7_kindOf_43 : decode cX7_kindOf 43 = .ok (.if_icmp .ne 7, 3) := by decide +kernel
theorem dX7_kindOf_46 : decode cX7_kindOf 46 = .ok (.iconst 5, 1) := by decide +kernel
theorem dX7_kindOf_47 : decode cX7_kindOf 47 = .ok (.goto 4, 3) := by decide +kernel
theorem dX7_kindOf_50 : decode cX7_kindOf 50 = .ok (.iconst 0, 1) := by decide +kernel
theorem dX7_kindOf_51 : decode cX7_kindOf 51 = .ok (.ireturn, 1) := by decide +kernel
theorem dX7_sortOf_0 : decode cX7_sortOf 0 = .ok (.iload_n 0, 1) := by decide +kernel
theorem dX7_sortOf_1 : decode cX7_sortOf 1 = .ok (.bipush 101, 2) := by decide +kernel
theorem dX7_sortOf_3 : decode cX7_sortOf 3 = .ok (.if_icmp .ne 7, 3) := by decide +kernel
theorem dX7_sortOf_6 : decode cX7_sortOf 6 = .ok (.iconst 0, 1) := by decide +kernel
theorem dX7_sortOf_7 : decode cX7_sortOf 7 = .ok (.goto 25, 3) := by decide +kernel
theorem dX7_sortOf_10 : decode cX7_sortOf 10 = .ok (.iload_n 0, 1) := by decide +kernel
theorem dX7_sortOf_11 : decode cX7_sortOf 11 = .ok (.bipush 99, 2) := by decide +kernel
theorem dX7_sortOf_13 : decode cX7_sortOf 13 = .ok (.if_icmp .ne 7, 3) := by decide +kernel
theorem dX7_sortOf_16 : decode cX7_sortOf 16 = .ok (.iconst 1, 1) := by decide +kernel
theorem dX7_sortOf_17 : decode cX7_sortOf 17 = .ok (.goto 15, 3) := by decide +kernel
theorem dX7_sortOf_20 : decode cX7_sortOf 20 = .ok (.iload_n 0, 1) := by decide +kernel
theorem dX7_sortOf_21 : decode cX7_sortOf 21 = .ok (.bipush 102, 2) := by decide +kernel
theorem dX7_sortOf_23 : decode cX7_sortOf 23 = .ok (.if_icmp .ne 7, 3) := by decide +kernel
theorem dX7_sortOf_26 : decode cX7_sortOf 26 = .ok (.iconst 2, 1) := by decide +kernel
theorem dX7_sortOf_27 : decode cX7_sortOf 27 = .ok (.goto 5, 3) := by decide +kernel
theorem dX7_sortOf_30 : decode cX7_sortOf 30 = .ok (.ldc 56, 2) := by decide +kernel
theorem dX7_sortOf_32 : decode cX7_sortOf 32 = .ok (.ireturn, 1) := by decide +kernel
theorem dX7_behind_0 : decode cX7_behind 0 = .ok (.aload_n 0, 1) := by decide +kernel
theorem dX7_behind_1 : decode cX7_behind 1 = .ok (.aload_n 0, 1) := by decide +kernel
theorem dX7_behind_2 : decode cX7_behind 2 = .ok (.getfield 104, 3) := by decide +kernel
theorem dX7_behind_5 : decode cX7_behind 5 = .ok (.iconst 3, 1) := by decide +kernel
theorem dX7_behind_6 : decode cX7_behind 6 = .ok (.if_icmp .ne 7, 3) := by decide +kernel
theorem dX7_behind_9 : decode cX7_behind 9 = .ok (.iconst 1, 1) := by decide +kernel
theorem dX7_behind_10 : decode cX7_behind 10 = .ok (.goto 4, 3) := by decide +kernel
theorem dX7_behind_13 : decode cX7_behind 13 = .ok (.iconst 0, 1) := by decide +kernel
theorem dX7_behind_14 : decode cX7_behind 14 = .ok (.iconst 1, 1) := by decide +kernel
theorem dX7_behind_15 : decode cX7_behind 15 = .ok (.invokevirtual 120, 3) := by decide +kernel
theorem dX7_behind_18 : decode cX7_behind 18 = .ok (.pop, 1) := by decide +kernel
theorem dX7_behind_19 : decode cX7_behind 19 = .ok (.aload_n 0, 1) := by decide +kernel
theorem dX7_behind_20 : decode cX7_behind 20 = .ok (.iload_n 1, 1) := by decide +kernel
theorem dX7_behind_21 : decode cX7_behind 21 = .ok (.iload_n 2, 1) := by decide +kernel
theorem dX7_behind_22 : decode cX7_behind 22 = .ok (.invokevirtual 124, 3) := by decide +kernel
theorem dX7_behind_25 : decode cX7_behind 25 = .ok (.ireturn, 1) := by decide +kernel
theorem dX7_must_0 : decode cX7_must 0 = .ok (.aload_n 0, 1) := by decide +kernel
theorem dX7_must_1 : decode cX7_must 1 = .ok (.invokevirtual 110, 3) := by decide +kernel
theorem dX7_must_4 : decode cX7_must 4 = .ok (.ifCond .eq 14, 3) := by decide +kernel
theorem dX7_must_7 : decode cX7_must 7 = .ok (.iload_n 1, 1) := by decide +kernel
theorem dX7_must_8 : decode cX7_must 8 = .ok (.ifCond .ne 10, 3) := by decide +kernel
theorem dX7_must_11 : decode cX7_must 11 = .ok (.aload_n 0, 1) := by decide +kernel
theorem dX7_must_12 : decode cX7_must 12 = .ok (.iconst 0, 1) := by decide +kernel
theorem dX7_must_13 : decode cX7_must 13 = .ok (.iload_n 2, 1) := by decide +kernel
theorem dX7_must_14 : decode cX7_must 14 = .ok (.invokevirtual 120, 3) := by decide +kernel
theorem dX7_must_17 : decode cX7_must 17 = .ok (.pop, 1) := by decide +kernel
theorem dX7_must_18 : decode cX7_must 18 = .ok (.return_, 1) := by decide +kernel
theorem dX7_readsMethod_0 : decode cX7_readsMethod 0 = .ok (.aload_n 0, 1) := by decide +kernel
theorem dX7_readsMethod_1 : decode cX7_readsMethod 1 = .ok (.aload_n 0, 1) := by decide +kernel
theorem dX7_readsMethod_2 : decode cX7_readsMethod 2 = .ok (.getfield 28, 3) := by decide +kernel
theorem dX7_readsMethod_5 : decode cX7_readsMethod 5 = .ok (.iconst 0, 1) := by decide +kernel
theorem dX7_readsMethod_6 : decode cX7_readsMethod 6 = .ok (.iaload, 1) := by decide +kernel
theorem dX7_readsMethod_7 : decode cX7_readsMethod 7 = .ok (.bipush 6, 2) := by decide +kernel
theorem dX7_readsMethod_9 : decode cX7_readsMethod 9 = .ok (.if_icmp .ge 7, 3) := by decide +kernel
theorem dX7_readsMethod_12 : decode cX7_readsMethod 12 = .ok (.iconst 1, 1) := by decide +kernel
theorem dX7_readsMethod_13 : decode cX7_readsMethod 13 = .ok (.goto 4, 3) := by decide +kernel
theorem dX7_readsMethod_16 : decode cX7_readsMethod 16 = .ok (.iconst 0, 1) := by decide +kernel
theorem dX7_readsMethod_17 : decode cX7_readsMethod 17 = .ok (.iconst 3, 1) := by decide +kernel
theorem dX7_readsMethod_18 : decode cX7_readsMethod 18 = .ok (.invokevirtual 120, 3) := by decide +kernel
theorem dX7_readsMethod_21 : decode cX7_readsMethod 21 = .ok (.pop, 1) := by decide +kernel
theorem dX7_readsMethod_22 : decode cX7_readsMethod 22 = .ok (.iconst 2, 1) := by decide +kernel
theorem dX7_readsMethod_23 : decode cX7_readsMethod 23 = .ok (.bipush 10, 2) := by decide +kernel
theorem dX7_readsMethod_25 : decode cX7_readsMethod 25 = .ok (.aload_n 0, 1) := by decide +kernel
theorem dX7_readsMethod_26 : decode cX7_readsMethod 26 = .ok (.getfield 28, 3) := by decide +kernel
theorem dX7_readsMethod_29 : decode cX7_readsMethod 29 = .ok (.iconst 0, 1) := by decide +kernel
theorem dX7_readsMethod_30 : decode cX7_readsMethod 30 = .ok (.iaload, 1) := by decide +kernel
theorem dX7_readsMethod_31 : decode cX7_readsMethod 31 = .ok (.bipush 6, 2) := by decide +kernel
theorem dX7_readsMethod_33 : decode cX7_readsMethod 33 = .ok (.if_icmp .ge 12, 3) := by decide +kernel
theorem dX7_readsMethod_36 : decode cX7_readsMethod 36 = .ok (.aload_n 0, 1) := by decide +kernel
theorem dX7_readsMethod_37 : decode cX7_readsMethod 37 = .ok (.getfield 28, 3) := by decide +kernel
theorem dX7_readsMethod_40 : decode cX7_readsMethod 40 = .ok (.iconst 0, 1) := by decide +kernel
theorem dX7_readsMethod_41 : decode cX7_readsMethod 41 = .ok (.iaload, 1) := by decide +kernel
theorem dX7_readsMethod_42 : decode cX7_readsMethod 42 = .ok (.goto 4, 3) := by decide +kernel
theorem dX7_readsMethod_45 : decode cX7_readsMethod 45 = .ok (.iconst 0, 1) := by decide +kernel
theorem dX7_readsMethod_46 : decode cX7_readsMethod 46 = .ok (.imul, 1) := by decide +kernel
theorem dX7_readsMethod_47 : decode cX7_readsMethod 47 = .ok (.iadd, 1) := by decide +kernel
theorem dX7_readsMethod_48 : decode cX7_readsMethod 48 = .ok (.istore_n 1, 1) := by decide +kernel
theorem dX7_readsMethod_49 : decode cX7_readsMethod 49 = .ok (.aload_n 0, 1) := by decide +kernel
theorem dX7_readsMethod_50 : decode cX7_readsMethod 50 = .ok (.iconst 0, 1) := by decide +kernel
theorem dX7_readsMethod_51 : decode cX7_readsMethod 51 = .ok (.iconst 3, 1) := by decide +kernel
theorem dX7_readsMethod_52 : decode cX7_readsMethod 52 = .ok (.invokevirtual 124, 3) := by decide +kernel
theorem dX7_readsMethod_55 : decode cX7_readsMethod 55 = .ok (.istore_n 2, 1) := by decide +kernel
theorem dX7_readsMethod_56 : decode cX7_readsMethod 56 = .ok (.iconst 0, 1) := by decide +kernel
theorem dX7_readsMethod_57 : decode cX7_readsMethod 57 = .ok (.istore_n 3, 1) := by decide +kernel
theorem dX7_readsMethod_58 : decode cX7_readsMethod 58 = .ok (.aload_n 0, 1) := by decide +kernel
theorem dX7_readsMethod_59 : decode cX7_readsMethod 59 = .ok (.invokevirtual 110, 3) := by decide +kernel
theorem dX7_readsMethod_62 : decode cX7_readsMethod 62 = .ok (.ifCond .eq 121, 3) := by decide +kernel
theorem dX7_readsMethod_65 : decode cX7_readsMethod 65 = .ok (.iload_n 3, 1) := by decide +kernel
theorem dX7_readsMethod_66 : decode cX7_readsMethod 66 = .ok (.iconst 4, 1) := by decide +kernel
theorem dX7_readsMethod_67 : decode cX7_readsMethod 67 = .ok (.if_icmp .ge 116, 3) := by decide +kernel
theorem dX7_readsMethod_70 : decode cX7_readsMethod 70 = .ok (.aload_n 0, 1) := by decide +kernel
theorem dX7_readsMethod_71 : decode cX7_readsMethod 71 = .ok (.getfield 104, 3) := by decide +kernel
theorem dX7_readsMethod_74 : decode cX7_readsMethod 74 = .ok (.iconst 1, 1) := by decide +kernel
theorem dX7_readsMethod_75 : decode cX7_readsMethod 75 = .ok (.if_icmp .ne 108, 3) := by decide +kernel
theorem dX7_readsMethod_78 : decode cX7_readsMethod 78 = .ok (.aload_n 0, 1) := by decide +kernel
theorem dX7_readsMethod_79 : decode cX7_readsMethod 79 = .ok (.getfield 101, 3) := by decide +kernel
theorem dX7_readsMethod_82 : decode cX7_readsMethod 82 = .ok (.invokestatic 127, 3) := by decide +kernel
theorem dX7_readsMethod_85 : decode cX7_readsMethod 85 = .ok (.ldc 56, 2) := by decide +kernel
theorem dX7_readsMethod_87 : decode cX7_readsMethod 87 = .ok (.if_icmp .eq 96, 3) := by decide +kernel
theorem dX7_readsMethod_90 : decode cX7_readsMethod 90 = .ok (.aload_n 0, 1) := by decide +kernel
theorem dX7_readsMethod_91 : decode cX7_readsMethod 91 = .ok (.iconst 1, 1) := by decide +kernel
theorem dX7_readsMethod_92 : decode cX7_readsMethod 92 = .ok (.iconst 1, 1) := by decide +kernel
theorem dX7_readsMethod_93 : decode cX7_readsMethod 93 = .ok (.invokevirtual 120, 3) := by decide +kernel
theorem dX7_readsMethod_96 : decode cX7_readsMethod 96 = .ok (.invokestatic 127, 3) := by decide +kernel
theorem dX7_readsMethod_99 : decode cX7_readsMethod 99 = .ok (.istore 4, 2) := by decide +kernel
theorem dX7_readsMethod_101 : decode cX7_readsMethod 101 = .ok (.iload 4, 2) := by decide +kernel
theorem dX7_readsMethod_103 : decode cX7_readsMethod 103 = .ok (.ifCond .ne 13, 3) := by decide +kernel
theorem dX7_readsMethod_106 : decode cX7_readsMethod 106 = .ok (.aload_n 0, 1) := by decide +kernel
theorem dX7_readsMethod_107 : decode cX7_readsMethod 107 = .ok (.iconst 1, 1) := by decide +kernel
theorem dX7_readsMethod_108 : decode cX7_readsMethod 108 = .ok (.bipush 99, 2) := by decide +kernel
theorem dX7_readsMethod_110 : decode cX7_readsMethod 110 = .ok (.invokevirtual 124, 3) := by decide +kernel
theorem dX7_readsMethod_113 : decode cX7_readsMethod 113 = .ok (.goto 25, 3) := by decide +kernel
theorem dX7_readsMethod_116 : decode cX7_readsMethod 116 = .ok (.iload 4, 2) := by decide +kernel
theorem dX7_readsMethod_118 : decode cX7_readsMethod 118 = .ok (.iconst 1, 1) := by decide +kernel
theorem dX7_readsMethod_119 : decode cX7_readsMethod 119 = .ok (.if_icmp .ne 12, 3) := by decide +kernel
theorem dX7_readsMethod_122 : decode cX7_readsMethod 122 = .ok (.aload_n 0, 1) := by decide +kernel
theorem dX7_readsMethod_123 : decode cX7_readsMethod 123 = .ok (.iconst 0, 1) := by decide +kernel
theorem dX7_readsMethod_124 : decode cX7_readsMethod 124 = .ok (.iconst 5, 1) := by decide +kernel
theorem dX7_readsMethod_125 : decode cX7_readsMethod 125 = .ok (.invokevirtual 124, 3) := by decide +kernel
theorem dX7_readsMethod_128 : decode cX7_readsMethod 128 = .ok (.goto 10, 3) := by decide +kernel
theorem dX7_readsMethod_131 : decode cX7_readsMethod 131 = .ok (.aload_n 0, 1) := by decide +kernel
theorem dX7_readsMethod_132 : decode cX7_readsMethod 132 = .ok (.iconst 1, 1) := by decide +kernel
theorem dX7_readsMethod_133 : decode cX7_readsMethod 133 = .ok (.bipush 9, 2) := by decide +kernel
theorem dX7_readsMethod_135 : decode cX7_readsMethod 135 = .ok (.invokevirtual 124, 3) := by decide +kernel
theorem dX7_readsMethod_138 : decode cX7_readsMethod 138 = .ok (.istore 5, 2) := by decide +kernel
theorem dX7_readsMethod_140 : decode cX7_readsMethod 140 = .ok (.aload_n 0, 1) := by decide +kernel
theorem dX7_readsMethod_141 : decode cX7_readsMethod 141 = .ok (.invokevirtual 110, 3) := by decide +kernel
theorem dX7_readsMethod_144 : decode cX7_readsMethod 144 = .ok (.ifCond .eq 36, 3) := by decide +kernel
theorem dX7_readsMethod_147 : decode cX7_readsMethod 147 = .ok (.aload_n 0, 1) := by decide +kernel
theorem dX7_readsMethod_148 : decode cX7_readsMethod 148 = .ok (.getfield 28, 3) := by decide +kernel
theorem dX7_readsMethod_151 : decode cX7_readsMethod 151 = .ok (.iload_n 1, 1) := by decide +kernel
theorem dX7_readsMethod_152 : decode cX7_readsMethod 152 = .ok (.iconst 2, 1) := by decide +kernel
theorem dX7_readsMethod_153 : decode cX7_readsMethod 153 = .ok (.iadd, 1) := by decide +kernel
theorem dX7_readsMethod_154 : decode cX7_readsMethod 154 = .ok (.iconst 2, 1) := by decide +kernel
theorem dX7_readsMethod_155 : decode cX7_readsMethod 155 = .ok (.iload_n 3, 1) := by decide +kernel
theorem dX7_readsMethod_156 : decode cX7_readsMethod 156 = .ok (.imul, 1) := by decide +kernel
theorem dX7_readsMethod_157 : decode cX7_readsMethod 157 = .ok (.iadd, 1) := by decide +kernel
theorem dX7_readsMethod_158 : decode cX7_readsMethod 158 = .ok (.iload 4, 2) := by decide +kernel
theorem dX7_readsMethod_160 : decode cX7_readsMethod 160 = .ok (.iastore, 1) := by decide +kernel
theorem dX7_readsMethod_161 : decode cX7_readsMethod 161 = .ok (.aload_n 0, 1) := by decide +kernel
theorem dX7_readsMethod_162 : decode cX7_readsMethod 162 = .ok (.getfield 28, 3) := by decide +kernel
theorem dX7_readsMethod_165 : decode cX7_readsMethod 165 = .ok (.iload_n 1, 1) := by decide +kernel
theorem dX7_readsMethod_166 : decode cX7_readsMethod 166 = .ok (.iconst 2, 1) := by decide +kernel
theorem dX7_readsMethod_167 : decode cX7_readsMethod 167 = .ok (.iadd, 1) := by decide +kernel
theorem dX7_readsMethod_168 : decode cX7_readsMethod 168 = .ok (.iconst 2, 1) := by decide +kernel
theorem dX7_readsMethod_169 : decode cX7_readsMethod 169 = .ok (.iload_n 3, 1) := by decide +kernel
theorem dX7_readsMethod_170 : decode cX7_readsMethod 170 = .ok (.imul, 1) := by decide +kernel
theorem dX7_readsMethod_171 : decode cX7_readsMethod 171 = .ok (.iadd, 1) := by decide +kernel
theorem dX7_readsMethod_172 : decode cX7_readsMethod 172 = .ok (.iconst 1, 1) := by decide +kernel
theorem dX7_readsMethod_173 : decode cX7_readsMethod 173 = .ok (.iadd, 1) := by decide +kernel
theorem dX7_readsMethod_174 : decode cX7_readsMethod 174 = .ok (.iload 5, 2) := by decide +kernel
theorem dX7_readsMethod_176 : decode cX7_readsMethod 176 = .ok (.iastore, 1) := by decide +kernel
theorem dX7_readsMethod_177 : decode cX7_readsMethod 177 = .ok (.iinc 3 1, 3) := by decide +kernel
theorem dX7_readsMethod_180 : decode cX7_readsMethod 180 = .ok (.goto (-122), 3) := by decide +kernel
theorem dX7_readsMethod_183 : decode cX7_readsMethod 183 = .ok (.aload_n 0, 1) := by decide +kernel
theorem dX7_readsMethod_184 : decode cX7_readsMethod 184 = .ok (.aload_n 0, 1) := by decide +kernel
theorem dX7_readsMethod_185 : decode cX7_readsMethod 185 = .ok (.getfield 104, 3) := by decide +kernel
theorem dX7_readsMethod_188 : decode cX7_readsMethod 188 = .ok (.iconst 4, 1) := by decide +kernel
theorem dX7_readsMethod_189 : decode cX7_readsMethod 189 = .ok (.if_icmp .ne 7, 3) := by decide +kernel
theorem dX7_readsMethod_192 : decode cX7_readsMethod 192 = .ok (.iconst 1, 1) := by decide +kernel
theorem dX7_readsMethod_193 : decode cX7_readsMethod 193 = .ok (.goto 4, 3) := by decide +kernel
theorem dX7_readsMethod_196 : decode cX7_readsMethod 196 = .ok (.iconst 0, 1) := by decide +kernel
theorem dX7_readsMethod_197 : decode cX7_readsMethod 197 = .ok (.iconst 1, 1) := by decide +kernel
theorem dX7_readsMethod_198 : decode cX7_readsMethod 198 = .ok (.invokevirtual 120, 3) := by decide +kernel
theorem dX7_readsMethod_201 : decode cX7_readsMethod 201 = .ok (.pop, 1) := by decide +kernel
theorem dX7_readsMethod_202 : decode cX7_readsMethod 202 = .ok (.aload_n 0, 1) := by decide +kernel
theorem dX7_readsMethod_203 : decode cX7_readsMethod 203 = .ok (.invokevirtual 110, 3) := by decide +kernel
theorem dX7_readsMethod_206 : decode cX7_readsMethod 206 = .ok (.ifCond .eq 29, 3) := by decide +kernel
theorem dX7_readsMethod_209 : decode cX7_readsMethod 209 = .ok (.aload_n 0, 1) := by decide +kernel
theorem dX7_readsMethod_210 : decode cX7_readsMethod 210 = .ok (.getfield 28, 3) := by decide +kernel
theorem dX7_readsMethod_213 : decode cX7_readsMethod 213 = .ok (.iload_n 1, 1) := by decide +kernel
theorem dX7_readsMethod_214 : decode cX7_readsMethod 214 = .ok (.iload_n 2, 1) := by decide +kernel
theorem dX7_readsMethod_215 : decode cX7_readsMethod 215 = .ok (.iastore, 1) := by decide +kernel
theorem dX7_readsMethod_216 : decode cX7_readsMethod 216 = .ok (.aload_n 0, 1) := by decide +kernel
theorem dX7_readsMethod_217 : decode cX7_readsMethod 217 = .ok (.getfield 28, 3) := by decide +kernel
theorem dX7_readsMethod_220 : decode cX7_readsMethod 220 = .ok (.iload_n 1, 1) := by decide +kernel
theorem dX7_readsMethod_221 : decode cX7_readsMethod 221 = .ok (.iconst 1, 1) := by decide +kernel
theorem dX7_readsMethod_222 : decode cX7_readsMethod 222 = .ok (.iadd, 1) := by decide +kernel
theorem dX7_readsMethod_223 : decode cX7_readsMethod 223 = .ok (.iload_n 3, 1) := by decide +kernel
theorem dX7_readsMethod_224 : decode cX7_readsMethod 224 = .ok (.iastore, 1) := by decide +kernel
theorem dX7_readsMethod_225 : decode cX7_readsMethod 225 = .ok (.aload_n 0, 1) := by decide +kernel
theorem dX7_readsMethod_226 : decode cX7_readsMethod 226 = .ok (.getfield 28, 3) := by decide +kernel
theorem dX7_readsMethod_229 : decode cX7_readsMethod 229 = .ok (.iconst 0, 1) := by decide +kernel
theorem dX7_readsMethod_230 : decode cX7_readsMethod 230 = .ok (.dup2, 1) := by decide +kernel
theorem dX7_readsMethod_231 : decode cX7_readsMethod 231 = .ok (.iaload, 1) := by decide +kernel
theorem dX7_readsMethod_232 : decode cX7_readsMethod 232 = .ok (.iconst 1, 1) := by decide +kernel
theorem dX7_readsMethod_233 : decode cX7_readsMethod 233 = .ok (.iadd, 1) := by decide +kernel
theorem dX7_readsMethod_234 : decode cX7_readsMethod 234 = .ok (.iastore, 1) := by decide +kernel
theorem dX7_readsMethod_235 : decode cX7_readsMethod 235 = .ok (.return_, 1) := by decide +kernel
theorem dX7_readsAdvice_0 : decode cX7_readsAdvice 0 = .ok (.aload_n 0, 1) := by decide +kernel
theorem dX7_readsAdvice_1 : decode cX7_readsAdvice 1 = .ok (.getfield 101, 3) := by decide +kernel
theorem dX7_readsAdvice_4 : decode cX7_readsAdvice 4 = .ok (.invokestatic 130, 3) := by decide +kernel
theorem dX7_readsAdvice_7 : decode cX7_readsAdvice 7 = .ok (.istore_n 1, 1) := by decide +kernel
theorem dX7_readsAdvice_8 : decode cX7_readsAdvice 8 = .ok (.aload_n 0, 1) := by decide +kernel
theorem dX7_readsAdvice_9 : decode cX7_readsAdvice 9 = .ok (.aload_n 0, 1) := by decide +kernel
theorem dX7_readsAdvice_10 : decode cX7_readsAdvice 10 = .ok (.getfield 28, 3) := by decide +kernel
theorem dX7_readsAdvice_13 : decode cX7_readsAdvice 13 = .ok (.iconst 1, 1) := by decide +kernel
theorem dX7_readsAdvice_14 : decode cX7_readsAdvice 14 = .ok (.iaload, 1) := by decide +kernel
theorem dX7_readsAdvice_15 : decode cX7_readsAdvice 15 = .ok (.iconst 5, 1) := by decide +kernel
theorem dX7_readsAdvice_16 : decode cX7_readsAdvice 16 = .ok (.if_icmp .ge 7, 3) := by decide +kernel
theorem dX7_readsAdvice_19 : decode cX7_readsAdvice 19 = .ok (.iconst 1, 1) := by decide +kernel
theorem dX7_readsAdvice_20 : decode cX7_readsAdvice 20 = .ok (.goto 4, 3) := by decide +kernel
theorem dX7_readsAdvice_23 : decode cX7_readsAdvice 23 = .ok (.iconst 0, 1) := by decide +kernel
theorem dX7_readsAdvice_24 : decode cX7_readsAdvice 24 = .ok (.iconst 3, 1) := by decide +kernel
theorem dX7_readsAdvice_25 : decode cX7_readsAdvice 25 = .ok (.invokevirtual 120, 3) := by decide +kernel
theorem dX7_readsAdvice_28 : decode cX7_readsAdvice 28 = .ok (.pop, 1) := by decide +kernel
theorem dX7_readsAdvice_29 : decode cX7_readsAdvice 29 = .ok (.bipush 62, 2) := by decide +kernel
theorem dX7_readsAdvice_31 : decode cX7_readsAdvice 31 = .ok (.bipush 6, 2) := by decide +kernel
theorem dX7_readsAdvice_33 : decode cX7_readsAdvice 33 = .ok (.aload_n 0, 1) := by decide +kernel
theorem dX7_readsAdvice_34 : decode cX7_readsAdvice 34 = .ok (.getfield 28, 3) := by decide +kernel
theorem dX7_readsAdvice_37 : decode cX7_readsAdvice 37 = .ok (.iconst 1, 1) := by decide +kernel
theorem dX7_readsAdvice_38 : decode cX7_readsAdvice 38 = .ok (.iaload, 1) := by decide +kernel
theorem dX7_readsAdvice_39 : decode cX7_readsAdvice 39 = .ok (.iconst 5, 1) := by decide +kernel
theorem dX7_readsAdvice_40 : decode cX7_readsAdvice 40 = .ok (.if_icmp .ge 12, 3) := by decide +kernel
theorem dX7_readsAdvice_43 : decode cX7_readsAdvice 43 = .ok (.aload_n 0, 1) := by decide +kernel
theorem dX7_readsAdvice_44 : decode cX7_readsAdvice 44 = .ok (.getfield 28, 3) := by decide +kernel
theorem dX7_readsAdvice_47 : decode cX7_readsAdvice 47 = .ok (.iconst 1, 1) := by decide +kernel
theorem dX7_readsAdvice_48 : decode cX7_readsAdvice 48 = .ok (.iaload, 1) := by decide +kernel
theorem dX7_readsAdvice_49 : decode cX7_readsAdvice 49 = .ok (.goto 4, 3) := by decide +kernel
theorem dX7_readsAdvice_52 : decode cX7_readsAdvice 52 = .ok (.iconst 0, 1) := by decide +kernel
theorem dX7_readsAdvice_53 : decode cX7_readsAdvice 53 = .ok (.imul, 1) := by decide +kernel
theorem dX7_readsAdvice_54 : decode cX7_readsAdvice 54 = .ok (.iadd, 1) := by decide +kernel
theorem dX7_readsAdvice_55 : decode cX7_readsAdvice 55 = .ok (.istore_n 2, 1) := by decide +kernel
theorem dX7_readsAdvice_56 : decode cX7_readsAdvice 56 = .ok (.aload_n 0, 1) := by decide +kernel
theorem dX7_readsAdvice_57 : decode cX7_readsAdvice 57 = .ok (.iconst 1, 1) := by decide +kernel
theorem dX7_readsAdvice_58 : decode cX7_readsAdvice 58 = .ok (.bipush 99, 2) := by decide +kernel
theorem dX7_readsAdvice_60 : decode cX7_readsAdvice 60 = .ok (.invokevirtual 124, 3) := by decide +kernel
theorem dX7_readsAdvice_63 : decode cX7_readsAdvice 63 = .ok (.istore_n 3, 1) := by decide +kernel
theorem dX7_readsAdvice_64 : decode cX7_readsAdvice 64 = .ok (.aload_n 0, 1) := by decide +kernel
theorem dX7_readsAdvice_65 : decode cX7_readsAdvice 65 = .ok (.iconst 0, 1) := by decide +kernel
theorem dX7_readsAdvice_66 : decode cX7_readsAdvice 66 = .ok (.iconst 4, 1) := by decide +kernel
theorem dX7_readsAdvice_67 : decode cX7_readsAdvice 67 = .ok (.invokevirtual 133, 3) := by decide +kernel
theorem dX7_readsAdvice_70 : decode cX7_readsAdvice 70 = .ok (.istore 4, 2) := by decide +kernel
theorem dX7_readsAdvice_72 : decode cX7_readsAdvice 72 = .ok (.aload_n 0, 1) := by decide +kernel
theorem dX7_readsAdvice_73 : decode cX7_readsAdvice 73 = .ok (.iconst 0, 1) := by decide +kernel
theorem dX7_readsAdvice_74 : decode cX7_readsAdvice 74 = .ok (.bipush 6, 2) := by decide +kernel
theorem dX7_readsAdvice_76 : decode cX7_readsAdvice 76 = .ok (.invokevirtual 133, 3) := by decide +kernel
theorem dX7_readsAdvice_79 : decode cX7_readsAdvice 79 = .ok (.istore 5, 2) := by decide +kernel
theorem dX7_readsAdvice_81 : decode cX7_readsAdvice 81 = .ok (.aload_n 0, 1) := by decide +kernel
theorem dX7_readsAdvice_82 : decode cX7_readsAdvice 82 = .ok (.iconst 0, 1) := by decide +kernel
theorem dX7_readsAdvice_83 : decode cX7_readsAdvice 83 = .ok (.bipush 10, 2) := by decide +kernel
theorem dX7_readsAdvice_85 : decode cX7_readsAdvice 85 = .ok (.invokevirtual 133, 3) := by decide +kernel
theorem dX7_readsAdvice_88 : decode cX7_readsAdvice 88 = .ok (.istore 6, 2) := by decide +kernel
theorem dX7_readsAdvice_90 : decode cX7_readsAdvice 90 = .ok (.aload_n 0, 1) := by decide +kernel
theorem dX7_readsAdvice_91 : decode cX7_readsAdvice 91 = .ok (.iconst 0, 1) := by decide +kernel
theorem dX7_readsAdvice_92 : decode cX7_readsAdvice 92 = .ok (.bipush 6, 2) := by decide +kernel
theorem dX7_readsAdvice_94 : decode cX7_readsAdvice 94 = .ok (.invokevirtual 133, 3) := by decide +kernel
theorem dX7_readsAdvice_97 : decode cX7_readsAdvice 97 = .ok (.istore 7, 2) := by decide +kernel
theorem dX7_readsAdvice_99 : decode cX7_readsAdvice 99 = .ok (.aload_n 0, 1) := by decide +kernel
theorem dX7_readsAdvice_100 : decode cX7_readsAdvice 100 = .ok (.aload_n 0, 1) := by decide +kernel
theorem dX7_readsAdvice_101 : decode cX7_readsAdvice 101 = .ok (.getfield 104, 3) := by decide +kernel
theorem dX7_readsAdvice_104 : decode cX7_readsAdvice 104 = .ok (.iconst 4, 1) := by decide +kernel
theorem dX7_readsAdvice_105 : decode cX7_readsAdvice 105 = .ok (.if_icmp .ne 7, 3) := by decide +kernel
theorem dX7_readsAdvice_108 : decode cX7_readsAdvice 108 = .ok (.iconst 1, 1) := by decide +kernel
theorem dX7_readsAdvice_109 : decode cX7_readsAdvice 109 = .ok (.goto 4, 3) := by decide +kernel
theorem dX7_readsAdvice_112 : decode cX7_readsAdvice 112 = .ok (.iconst 0, 1) := by decide +kernel
theorem dX7_readsAdvice_113 : decode cX7_readsAdvice 113 = .ok (.iconst 1, 1) := by decide +kernel
theorem dX7_readsAdvice_114 : decode cX7_readsAdvice 114 = .ok (.invokevirtual 120, 3) := by decide +kernel
theorem dX7_readsAdvice_117 : decode cX7_readsAdvice 117 = .ok (.pop, 1) := by decide +kernel
theorem dX7_readsAdvice_118 : decode cX7_readsAdvice 118 = .ok (.aload_n 0, 1) := by decide +kernel
theorem dX7_readsAdvice_119 : decode cX7_readsAdvice 119 = .ok (.invokevirtual 110, 3) := by decide +kernel
theorem dX7_readsAdvice_122 : decode cX7_readsAdvice 122 = .ok (.ifCond .eq 69, 3) := by decide +kernel
theorem dX7_readsAdvice_125 : decode cX7_readsAdvice 125 = .ok (.aload_n 0, 1) := by decide +kernel
theorem dX7_readsAdvice_126 : decode cX7_readsAdvice 126 = .ok (.getfield 28, 3) := by decide +kernel
theorem dX7_readsAdvice_129 : decode cX7_readsAdvice 129 = .ok (.iload_n 2, 1) := by decide +kernel
theorem dX7_readsAdvice_130 : decode cX7_readsAdvice 130 = .ok (.iload_n 1, 1) := by decide +kernel
theorem dX7_readsAdvice_131 : decode cX7_readsAdvice 131 = .ok (.iastore, 1) := by decide +kernel
theorem dX7_readsAdvice_132 : decode cX7_readsAdvice 132 = .ok (.aload_n 0, 1) := by decide +kernel
theorem dX7_readsAdvice_133 : decode cX7_readsAdvice 133 = .ok (.getfield 28, 3) := by decide +kernel
theorem dX7_readsAdvice_136 : decode cX7_readsAdvice 136 = .ok (.iload_n 2, 1) := by decide +kernel
theorem dX7_readsAdvice_137 : decode cX7_readsAdvice 137 = .ok (.iconst 1, 1) := by decide +kernel
theorem dX7_readsAdvice_138 : decode cX7_readsAdvice 138 = .ok (.iadd, 1) := by decide +kernel
theorem dX7_readsAdvice_139 : decode cX7_readsAdvice 139 = .ok (.iload_n 3, 1) := by decide +kernel
theorem dX7_readsAdvice_140 : decode cX7_readsAdvice 140 = .ok (.iastore, 1) := by decide +kernel
theorem dX7_readsAdvice_141 : decode cX7_readsAdvice 141 = .ok (.aload_n 0, 1) := by decide +kernel
theorem dX7_readsAdvice_142 : decode cX7_readsAdvice 142 = .ok (.getfield 28, 3) := by decide +kernel
end
section
theorem dX7_readsAdvice_145 : decode cX7_readsAdvice 145 = .ok (.iload_n 2, 1) := by decide +kernel
theorem dX7_readsAdvice_146 : decode cX7_readsAdvice 146 = .ok (.iconst 2, 1) := by decide +kernel
theorem dX7_readsAdvice_147 : decode cX7_readsAdvice 147 = .ok (.iadd, 1) := by decide +kernel
theorem dX7_readsAdvice_148 : decode cX7_readsAdvice 148 = .ok (.iload 4, 2) := by decide +kernel
theorem dX7_readsAdvice_150 : decode cX7_readsAdvice 150 = .ok (.iastore, 1) := by decide +kernel
theorem dX7_readsAdvice_151 : decode cX7_readsAdvice 151 = .ok (.aload_n 0, 1) := by decide +kernel
theorem dX7_readsAdvice_152 : decode cX7_readsAdvice 152 = .ok (.getfield 28, 3) := by decide +kernel
theorem dX7_readsAdvice_155 : decode cX7_readsAdvice 155 = .ok (.iload_n 2, 1) := by decide +kernel
theorem dX7_readsAdvice_156 : decode cX7_readsAdvice 156 = .ok (.iconst 3, 1) := by decide +kernel
theorem dX7_readsAdvice_157 : decode cX7_readsAdvice 157 = .ok (.iadd, 1) := by decide +kernel
theorem dX7_readsAdvice_158 : decode cX7_readsAdvice 158 = .ok (.iload 5, 2) := by decide +kernel
theorem dX7_readsAdvice_160 : decode cX7_readsAdvice 160 = .ok (.iastore, 1) := by decide +kernel
theorem dX7_readsAdvice_161 : decode cX7_readsAdvice 161 = .ok (.aload_n 0, 1) := by decide +kernel
theorem dX7_readsAdvice_162 : decode cX7_readsAdvice 162 = .ok (.getfield 28, 3) := by decide +kernel
theorem dX7_readsAdvice_165 : decode cX7_readsAdvice 165 = .ok (.iload_n 2, 1) := by decide +kernel
theorem dX7_readsAdvice_166 : decode cX7_readsAdvice 166 = .ok (.iconst 4, 1) := by decide +kernel
theorem dX7_readsAdvice_167 : decode cX7_readsAdvice 167 = .ok (.iadd, 1) := by decide +kernel
theorem dX7_readsAdvice_168 : decode cX7_readsAdvice 168 = .ok (.iload 6, 2) := by decide +kernel
theorem dX7_readsAdvice_170 : decode cX7_readsAdvice 170 = .ok (.iastore, 1) := by decide +kernel
theorem dX7_readsAdvice_171 : decode cX7_readsAdvice 171 = .ok (.aload_n 0, 1) := by decide +kernel
theorem dX7_readsAdvice_172 : decode cX7_readsAdvice 172 = .ok (.getfield 28, 3) := by decide +kernel
theorem dX7_readsAdvice_175 : decode cX7_readsAdvice 175 = .ok (.iload_n 2, 1) := by decide +kernel
theorem dX7_readsAdvice_176 : decode cX7_readsAdvice 176 = .ok (.iconst 5, 1) := by decide +kernel
theorem dX7_readsAdvice_177 : decode cX7_readsAdvice 177 = .ok (.iadd, 1) := by decide +kernel
theorem dX7_readsAdvice_178 : decode cX7_readsAdvice 178 = .ok (.iload 7, 2) := by decide +kernel
theorem dX7_readsAdvice_180 : decode cX7_readsAdvice 180 = .ok (.iastore, 1) := by decide +kernel
theorem dX7_readsAdvice_181 : decode cX7_readsAdvice 181 = .ok (.aload_n 0, 1) := by decide +kernel
theorem dX7_readsAdvice_182 : decode cX7_readsAdvice 182 = .ok (.getfield 28, 3) := by decide +kernel
theorem dX7_readsAdvice_185 : decode cX7_readsAdvice 185 = .ok (.iconst 1, 1) := by decide +kernel
theorem dX7_readsAdvice_186 : decode cX7_readsAdvice 186 = .ok (.dup2, 1) := by decide +kernel
theorem dX7_readsAdvice_187 : decode cX7_readsAdvice 187 = .ok (.iaload, 1) := by decide +kernel
theorem dX7_readsAdvice_188 : decode cX7_readsAdvice 188 = .ok (.iconst 1, 1) := by decide +kernel
theorem dX7_readsAdvice_189 : decode cX7_readsAdvice 189 = .ok (.iadd, 1) := by decide +kernel
theorem dX7_readsAdvice_190 : decode cX7_readsAdvice 190 = .ok (.iastore, 1) := by decide +kernel
theorem dX7_readsAdvice_191 : decode cX7_readsAdvice 191 = .ok (.return_, 1) := by decide +kernel
theorem dX7_areThere_0 : decode cX7_areThere 0 = .ok (.iconst 1, 1) := by decide +kernel
theorem dX7_areThere_1 : decode cX7_areThere 1 = .ok (.istore_n 1, 1) := by decide +kernel
theorem dX7_areThere_2 : decode cX7_areThere 2 = .ok (.iconst 0, 1) := by decide +kernel
theorem dX7_areThere_3 : decode cX7_areThere 3 = .ok (.istore_n 2, 1) := by decide +kernel
theorem dX7_areThere_4 : decode cX7_areThere 4 = .ok (.iload_n 2, 1) := by decide +kernel
theorem dX7_areThere_5 : decode cX7_areThere 5 = .ok (.aload_n 0, 1) := by decide +kernel
theorem dX7_areThere_6 : decode cX7_areThere 6 = .ok (.iconst 0, 1) := by decide +kernel
theorem dX7_areThere_7 : decode cX7_areThere 7 = .ok (.iaload, 1) := by decide +kernel
theorem dX7_areThere_8 : decode cX7_areThere 8 = .ok (.if_icmp .ge 81, 3) := by decide +kernel
theorem dX7_areThere_11 : decode cX7_areThere 11 = .ok (.iconst 0, 1) := by decide +kernel
theorem dX7_areThere_12 : decode cX7_areThere 12 = .ok (.istore_n 3, 1) := by decide +kernel
theorem dX7_areThere_13 : decode cX7_areThere 13 = .ok (.iload_n 3, 1) := by decide +kernel
theorem dX7_areThere_14 : decode cX7_areThere 14 = .ok (.aload_n 0, 1) := by decide +kernel
theorem dX7_areThere_15 : decode cX7_areThere 15 = .ok (.iconst 2, 1) := by decide +kernel
theorem dX7_areThere_16 : decode cX7_areThere 16 = .ok (.bipush 10, 2) := by decide +kernel
theorem dX7_areThere_18 : decode cX7_areThere 18 = .ok (.iload_n 2, 1) := by decide +kernel
theorem dX7_areThere_19 : decode cX7_areThere 19 = .ok (.imul, 1) := by decide +kernel
theorem dX7_areThere_20 : decode cX7_areThere 20 = .ok (.iadd, 1) := by decide +kernel
theorem dX7_areThere_21 : decode cX7_areThere 21 = .ok (.iconst 1, 1) := by decide +kernel
theorem dX7_areThere_22 : decode cX7_areThere 22 = .ok (.iadd, 1) := by decide +kernel
theorem dX7_areThere_23 : decode cX7_areThere 23 = .ok (.iaload, 1) := by decide +kernel
theorem dX7_areThere_24 : decode cX7_areThere 24 = .ok (.if_icmp .ge 59, 3) := by decide +kernel
theorem dX7_areThere_27 : decode cX7_areThere 27 = .ok (.iload_n 1, 1) := by decide +kernel
theorem dX7_areThere_28 : decode cX7_areThere 28 = .ok (.ifCond .eq 47, 3) := by decide +kernel
theorem dX7_areThere_31 : decode cX7_areThere 31 = .ok (.aload_n 0, 1) := by decide +kernel
theorem dX7_areThere_32 : decode cX7_areThere 32 = .ok (.iconst 2, 1) := by decide +kernel
theorem dX7_areThere_33 : decode cX7_areThere 33 = .ok (.bipush 10, 2) := by decide +kernel
theorem dX7_areThere_35 : decode cX7_areThere 35 = .ok (.iload_n 2, 1) := by decide +kernel
theorem dX7_areThere_36 : decode cX7_areThere 36 = .ok (.imul, 1) := by decide +kernel
theorem dX7_areThere_37 : decode cX7_areThere 37 = .ok (.iadd, 1) := by decide +kernel
theorem dX7_areThere_38 : decode cX7_areThere 38 = .ok (.iconst 2, 1) := by decide +kernel
theorem dX7_areThere_39 : decode cX7_areThere 39 = .ok (.iadd, 1) := by decide +kernel
theorem dX7_areThere_40 : decode cX7_areThere 40 = .ok (.iconst 2, 1) := by decide +kernel
theorem dX7_areThere_41 : decode cX7_areThere 41 = .ok (.iload_n 3, 1) := by decide +kernel
theorem dX7_areThere_42 : decode cX7_areThere 42 = .ok (.imul, 1) := by decide +kernel
theorem dX7_areThere_43 : decode cX7_areThere 43 = .ok (.iadd, 1) := by decide +kernel
theorem dX7_areThere_44 : decode cX7_areThere 44 = .ok (.iaload, 1) := by decide +kernel
theorem dX7_areThere_45 : decode cX7_areThere 45 = .ok (.iconst 1, 1) := by decide +kernel
theorem dX7_areThere_46 : decode cX7_areThere 46 = .ok (.if_icmp .ne 25, 3) := by decide +kernel
theorem dX7_areThere_49 : decode cX7_areThere 49 = .ok (.aload_n 0, 1) := by decide +kernel
theorem dX7_areThere_50 : decode cX7_areThere 50 = .ok (.iconst 2, 1) := by decide +kernel
theorem dX7_areThere_51 : decode cX7_areThere 51 = .ok (.bipush 10, 2) := by decide +kernel
theorem dX7_areThere_53 : decode cX7_areThere 53 = .ok (.iload_n 2, 1) := by decide +kernel
theorem dX7_areThere_54 : decode cX7_areThere 54 = .ok (.imul, 1) := by decide +kernel
theorem dX7_areThere_55 : decode cX7_areThere 55 = .ok (.iadd, 1) := by decide +kernel
theorem dX7_areThere_56 : decode cX7_areThere 56 = .ok (.iconst 2, 1) := by decide +kernel
theorem dX7_areThere_57 : decode cX7_areThere 57 = .ok (.iadd, 1) := by decide +kernel
theorem dX7_areThere_58 : decode cX7_areThere 58 = .ok (.iconst 2, 1) := by decide +kernel
theorem dX7_areThere_59 : decode cX7_areThere 59 = .ok (.iload_n 3, 1) := by decide +kernel
theorem dX7_areThere_60 : decode cX7_areThere 60 = .ok (.imul, 1) := by decide +kernel
theorem dX7_areThere_61 : decode cX7_areThere 61 = .ok (.iadd, 1) := by decide +kernel
theorem dX7_areThere_62 : decode cX7_areThere 62 = .ok (.iconst 1, 1) := by decide +kernel
theorem dX7_areThere_63 : decode cX7_areThere 63 = .ok (.iadd, 1) := by decide +kernel
theorem dX7_areThere_64 : decode cX7_areThere 64 = .ok (.iaload, 1) := by decide +kernel
theorem dX7_areThere_65 : decode cX7_areThere 65 = .ok (.aload_n 0, 1) := by decide +kernel
theorem dX7_areThere_66 : decode cX7_areThere 66 = .ok (.iconst 0, 1) := by decide +kernel
theorem dX7_areThere_67 : decode cX7_areThere 67 = .ok (.iaload, 1) := by decide +kernel
theorem dX7_areThere_68 : decode cX7_areThere 68 = .ok (.if_icmp .ge 7, 3) := by decide +kernel
theorem dX7_areThere_71 : decode cX7_areThere 71 = .ok (.iconst 1, 1) := by decide +kernel
theorem dX7_areThere_72 : decode cX7_areThere 72 = .ok (.goto 4, 3) := by decide +kernel
theorem dX7_areThere_75 : decode cX7_areThere 75 = .ok (.iconst 0, 1) := by decide +kernel
theorem dX7_areThere_76 : decode cX7_areThere 76 = .ok (.istore_n 1, 1) := by decide +kernel
theorem dX7_areThere_77 : decode cX7_areThere 77 = .ok (.iinc 3 1, 3) := by decide +kernel
theorem dX7_areThere_80 : decode cX7_areThere 80 = .ok (.goto (-67), 3) := by decide +kernel
theorem dX7_areThere_83 : decode cX7_areThere 83 = .ok (.iinc 2 1, 3) := by decide +kernel
theorem dX7_areThere_86 : decode cX7_areThere 86 = .ok (.goto (-82), 3) := by decide +kernel
theorem dX7_areThere_89 : decode cX7_areThere 89 = .ok (.iload_n 1, 1) := by decide +kernel
theorem dX7_areThere_90 : decode cX7_areThere 90 = .ok (.ireturn, 1) := by decide +kernel
theorem dX7_weave_0 : decode cX7_weave 0 = .ok (.iconst 0, 1) := by decide +kernel
theorem dX7_weave_1 : decode cX7_weave 1 = .ok (.istore_n 1, 1) := by decide +kernel
theorem dX7_weave_2 : decode cX7_weave 2 = .ok (.iload_n 1, 1) := by decide +kernel
theorem dX7_weave_3 : decode cX7_weave 3 = .ok (.bipush 92, 2) := by decide +kernel
theorem dX7_weave_5 : decode cX7_weave 5 = .ok (.if_icmp .ge 16, 3) := by decide +kernel
theorem dX7_weave_8 : decode cX7_weave 8 = .ok (.aload_n 0, 1) := by decide +kernel
theorem dX7_weave_9 : decode cX7_weave 9 = .ok (.getfield 28, 3) := by decide +kernel
theorem dX7_weave_12 : decode cX7_weave 12 = .ok (.iload_n 1, 1) := by decide +kernel
theorem dX7_weave_13 : decode cX7_weave 13 = .ok (.iconst 0, 1) := by decide +kernel
theorem dX7_weave_14 : decode cX7_weave 14 = .ok (.iastore, 1) := by decide +kernel
theorem dX7_weave_15 : decode cX7_weave 15 = .ok (.iinc 1 1, 3) := by decide +kernel
theorem dX7_weave_18 : decode cX7_weave 18 = .ok (.goto (-16), 3) := by decide +kernel
theorem dX7_weave_21 : decode cX7_weave 21 = .ok (.aload_n 0, 1) := by decide +kernel
theorem dX7_weave_22 : decode cX7_weave 22 = .ok (.iconst 0, 1) := by decide +kernel
theorem dX7_weave_23 : decode cX7_weave 23 = .ok (.putfield 92, 3) := by decide +kernel
theorem dX7_weave_26 : decode cX7_weave 26 = .ok (.aload_n 0, 1) := by decide +kernel
theorem dX7_weave_27 : decode cX7_weave 27 = .ok (.iconst (-1), 1) := by decide +kernel
theorem dX7_weave_28 : decode cX7_weave 28 = .ok (.putfield 107, 3) := by decide +kernel
theorem dX7_weave_31 : decode cX7_weave 31 = .ok (.aload_n 0, 1) := by decide +kernel
theorem dX7_weave_32 : decode cX7_weave 32 = .ok (.invokevirtual 117, 3) := by decide +kernel
theorem dX7_weave_35 : decode cX7_weave 35 = .ok (.aload_n 0, 1) := by decide +kernel
theorem dX7_weave_36 : decode cX7_weave 36 = .ok (.invokevirtual 110, 3) := by decide +kernel
theorem dX7_weave_39 : decode cX7_weave 39 = .ok (.ifCond .eq 27, 3) := by decide +kernel
theorem dX7_weave_42 : decode cX7_weave 42 = .ok (.aload_n 0, 1) := by decide +kernel
theorem dX7_weave_43 : decode cX7_weave 43 = .ok (.getfield 104, 3) := by decide +kernel
theorem dX7_weave_46 : decode cX7_weave 46 = .ok (.iconst 1, 1) := by decide +kernel
theorem dX7_weave_47 : decode cX7_weave 47 = .ok (.if_icmp .ne 19, 3) := by decide +kernel
theorem dX7_weave_50 : decode cX7_weave 50 = .ok (.aload_n 0, 1) := by decide +kernel
theorem dX7_weave_51 : decode cX7_weave 51 = .ok (.getfield 101, 3) := by decide +kernel
theorem dX7_weave_54 : decode cX7_weave 54 = .ok (.bipush 109, 2) := by decide +kernel
theorem dX7_weave_56 : decode cX7_weave 56 = .ok (.if_icmp .ne 10, 3) := by decide +kernel
theorem dX7_weave_59 : decode cX7_weave 59 = .ok (.aload_n 0, 1) := by decide +kernel
theorem dX7_weave_60 : decode cX7_weave 60 = .ok (.invokevirtual 136, 3) := by decide +kernel
theorem dX7_weave_63 : decode cX7_weave 63 = .ok (.goto (-28), 3) := by decide +kernel
theorem dX7_weave_66 : decode cX7_weave 66 = .ok (.aload_n 0, 1) := by decide +kernel
theorem dX7_weave_67 : decode cX7_weave 67 = .ok (.aload_n 0, 1) := by decide +kernel
theorem dX7_weave_68 : decode cX7_weave 68 = .ok (.getfield 28, 3) := by decide +kernel
theorem dX7_weave_71 : decode cX7_weave 71 = .ok (.iconst 0, 1) := by decide +kernel
theorem dX7_weave_72 : decode cX7_weave 72 = .ok (.iaload, 1) := by decide +kernel
theorem dX7_weave_73 : decode cX7_weave 73 = .ok (.ifCond .le 7, 3) := by decide +kernel
theorem dX7_weave_76 : decode cX7_weave 76 = .ok (.iconst 1, 1) := by decide +kernel
theorem dX7_weave_77 : decode cX7_weave 77 = .ok (.goto 4, 3) := by decide +kernel
theorem dX7_weave_80 : decode cX7_weave 80 = .ok (.iconst 0, 1) := by decide +kernel
theorem dX7_weave_81 : decode cX7_weave 81 = .ok (.iconst 1, 1) := by decide +kernel
theorem dX7_weave_82 : decode cX7_weave 82 = .ok (.invokevirtual 139, 3) := by decide +kernel
theorem dX7_weave_85 : decode cX7_weave 85 = .ok (.aload_n 0, 1) := by decide +kernel
theorem dX7_weave_86 : decode cX7_weave 86 = .ok (.invokevirtual 110, 3) := by decide +kernel
theorem dX7_weave_89 : decode cX7_weave 89 = .ok (.ifCond .eq 28, 3) := by decide +kernel
theorem dX7_weave_92 : decode cX7_weave 92 = .ok (.aload_n 0, 1) := by decide +kernel
theorem dX7_weave_93 : decode cX7_weave 93 = .ok (.getfield 104, 3) := by decide +kernel
theorem dX7_weave_96 : decode cX7_weave 96 = .ok (.iconst 1, 1) := by decide +kernel
theorem dX7_weave_97 : decode cX7_weave 97 = .ok (.if_icmp .ne 20, 3) := by decide +kernel
theorem dX7_weave_100 : decode cX7_weave 100 = .ok (.aload_n 0, 1) := by decide +kernel
theorem dX7_weave_101 : decode cX7_weave 101 = .ok (.getfield 101, 3) := by decide +kernel
theorem dX7_weave_104 : decode cX7_weave 104 = .ok (.invokestatic 130, 3) := by decide +kernel
theorem dX7_weave_107 : decode cX7_weave 107 = .ok (.ifCond .le 10, 3) := by decide +kernel
theorem dX7_weave_110 : decode cX7_weave 110 = .ok (.aload_n 0, 1) := by decide +kernel
theorem dX7_weave_111 : decode cX7_weave 111 = .ok (.invokevirtual 143, 3) := by decide +kernel
theorem dX7_weave_114 : decode cX7_weave 114 = .ok (.goto (-29), 3) := by decide +kernel
theorem dX7_weave_117 : decode cX7_weave 117 = .ok (.aload_n 0, 1) := by decide +kernel
theorem dX7_weave_118 : decode cX7_weave 118 = .ok (.aload_n 0, 1) := by decide +kernel
theorem dX7_weave_119 : decode cX7_weave 119 = .ok (.getfield 104, 3) := by decide +kernel
theorem dX7_weave_122 : decode cX7_weave 122 = .ok (.ifCond .ne 7, 3) := by decide +kernel
theorem dX7_weave_125 : decode cX7_weave 125 = .ok (.iconst 1, 1) := by decide +kernel
theorem dX7_weave_126 : decode cX7_weave 126 = .ok (.goto 4, 3) := by decide +kernel
theorem dX7_weave_129 : decode cX7_weave 129 = .ok (.iconst 0, 1) := by decide +kernel
theorem dX7_weave_130 : decode cX7_weave 130 = .ok (.iconst 1, 1) := by decide +kernel
theorem dX7_weave_131 : decode cX7_weave 131 = .ok (.invokevirtual 139, 3) := by decide +kernel
theorem dX7_weave_134 : decode cX7_weave 134 = .ok (.aload_n 0, 1) := by decide +kernel
theorem dX7_weave_135 : decode cX7_weave 135 = .ok (.aload_n 0, 1) := by decide +kernel
theorem dX7_weave_136 : decode cX7_weave 136 = .ok (.getfield 28, 3) := by decide +kernel
theorem dX7_weave_139 : decode cX7_weave 139 = .ok (.invokestatic 146, 3) := by decide +kernel
theorem dX7_weave_142 : decode cX7_weave 142 = .ok (.iconst 4, 1) := by decide +kernel
theorem dX7_weave_143 : decode cX7_weave 143 = .ok (.invokevirtual 139, 3) := by decide +kernel
theorem dX7_weave_146 : decode cX7_weave 146 = .ok (.aload_n 0, 1) := by decide +kernel
theorem dX7_weave_147 : decode cX7_weave 147 = .ok (.iconst 0, 1) := by decide +kernel
theorem dX7_weave_148 : decode cX7_weave 148 = .ok (.putfield 88, 3) := by decide +kernel
theorem dX7_weave_151 : decode cX7_weave 151 = .ok (.aload_n 0, 1) := by decide +kernel
theorem dX7_weave_152 : decode cX7_weave 152 = .ok (.invokevirtual 110, 3) := by decide +kernel
theorem dX7_weave_155 : decode cX7_weave 155 = .ok (.ifCond .ne 11, 3) := by decide +kernel
theorem dX7_weave_158 : decode cX7_weave 158 = .ok (.ldc 150, 2) := by decide +kernel
theorem dX7_weave_160 : decode cX7_weave 160 = .ok (.aload_n 0, 1) := by decide +kernel
theorem dX7_weave_161 : decode cX7_weave 161 = .ok (.getfield 107, 3) := by decide +kernel
theorem dX7_weave_164 : decode cX7_weave 164 = .ok (.isub, 1) := by decide +kernel
theorem dX7_weave_165 : decode cX7_weave 165 = .ok (.ireturn, 1) := by decide +kernel
theorem dX7_weave_166 : decode cX7_weave 166 = .ok (.aload_n 0, 1) := by decide +kernel
theorem dX7_weave_167 : decode cX7_weave 167 = .ok (.getfield 28, 3) := by decide +kernel
theorem dX7_weave_170 : decode cX7_weave 170 = .ok (.iconst 0, 1) := by decide +kernel
theorem dX7_weave_171 : decode cX7_weave 171 = .ok (.aload_n 0, 1) := by decide +kernel
theorem dX7_weave_172 : decode cX7_weave 172 = .ok (.getfield 25, 3) := by decide +kernel
theorem dX7_weave_175 : decode cX7_weave 175 = .ok (.iconst 0, 1) := by decide +kernel
theorem dX7_weave_176 : decode cX7_weave 176 = .ok (.invokestatic 151, 3) := by decide +kernel
theorem dX7_weave_179 : decode cX7_weave 179 = .ok (.aload_n 0, 1) := by decide +kernel
theorem dX7_weave_180 : decode cX7_weave 180 = .ok (.iconst 0, 1) := by decide +kernel
theorem dX7_weave_181 : decode cX7_weave 181 = .ok (.putfield 155, 3) := by decide +kernel
theorem dX7_weave_184 : decode cX7_weave 184 = .ok (.aload_n 0, 1) := by decide +kernel
theorem dX7_weave_185 : decode cX7_weave 185 = .ok (.getfield 25, 3) := by decide +kernel
theorem dX7_weave_188 : decode cX7_weave 188 = .ok (.iconst 0, 1) := by decide +kernel
theorem dX7_weave_189 : decode cX7_weave 189 = .ok (.iaload, 1) := by decide +kernel
theorem dX7_weave_190 : decode cX7_weave 190 = .ok (.ireturn, 1) := by decide +kernel
theorem dX7_fault_0 : decode cX7_fault 0 = .ok (.aload_n 0, 1) := by decide +kernel
theorem dX7_fault_1 : decode cX7_fault 1 = .ok (.getfield 114, 3) := by decide +kernel
theorem dX7_fault_4 : decode cX7_fault 4 = .ok (.ireturn, 1) := by decide +kernel
theorem dX7_isWeave_0 : decode cX7_isWeave 0 = .ok (.aload_n 0, 1) := by decide +kernel
theorem dX7_isWeave_1 : decode cX7_isWeave 1 = .ok (.getfield 25, 3) := by decide +kernel
theorem dX7_isWeave_4 : decode cX7_isWeave 4 = .ok (.iconst 0, 1) := by decide +kernel
theorem dX7_isWeave_5 : decode cX7_isWeave 5 = .ok (.iaload, 1) := by decide +kernel
theorem dX7_isWeave_6 : decode cX7_isWeave 6 = .ok (.ifCond .le 7, 3) := by decide +kernel
theorem dX7_isWeave_9 : decode cX7_isWeave 9 = .ok (.iconst 1, 1) := by decide +kernel
theorem dX7_isWeave_10 : decode cX7_isWeave 10 = .ok (.goto 4, 3) := by decide +kernel
theorem dX7_isWeave_13 : decode cX7_isWeave 13 = .ok (.iconst 0, 1) := by decide +kernel
theorem dX7_isWeave_14 : decode cX7_isWeave 14 = .ok (.ireturn, 1) := by decide +kernel
theorem dX7_isMethod_0 : decode cX7_isMethod 0 = .ok (.iload_n 1, 1) := by decide +kernel
theorem dX7_isMethod_1 : decode cX7_isMethod 1 = .ok (.iconst 0, 1) := by decide +kernel
theorem dX7_isMethod_2 : decode cX7_isMethod 2 = .ok (.aload_n 0, 1) := by decide +kernel
theorem dX7_isMethod_3 : decode cX7_isMethod 3 = .ok (.getfield 25, 3) := by decide +kernel
theorem dX7_isMethod_6 : decode cX7_isMethod 6 = .ok (.iconst 0, 1) := by decide +kernel
theorem dX7_isMethod_7 : decode cX7_isMethod 7 = .ok (.iaload, 1) := by decide +kernel
theorem dX7_isMethod_8 : decode cX7_isMethod 8 = .ok (.iconst 1, 1) := by decide +kernel
theorem dX7_isMethod_9 : decode cX7_isMethod 9 = .ok (.isub, 1) := by decide +kernel
theorem dX7_isMethod_10 : decode cX7_isMethod 10 = .ok (.invokestatic 62, 3) := by decide +kernel
theorem dX7_isMethod_13 : decode cX7_isMethod 13 = .ok (.ireturn, 1) := by decide +kernel
theorem dX7_isAdvice_0 : decode cX7_isAdvice 0 = .ok (.iload_n 1, 1) := by decide +kernel
theorem dX7_isAdvice_1 : decode cX7_isAdvice 1 = .ok (.iconst 0, 1) := by decide +kernel
theorem dX7_isAdvice_2 : decode cX7_isAdvice 2 = .ok (.aload_n 0, 1) := by decide +kernel
theorem dX7_isAdvice_3 : decode cX7_isAdvice 3 = .ok (.getfield 25, 3) := by decide +kernel
theorem dX7_isAdvice_6 : decode cX7_isAdvice 6 = .ok (.iconst 1, 1) := by decide +kernel
theorem dX7_isAdvice_7 : decode cX7_isAdvice 7 = .ok (.iaload, 1) := by decide +kernel
theorem dX7_isAdvice_8 : decode cX7_isAdvice 8 = .ok (.iconst 1, 1) := by decide +kernel
theorem dX7_isAdvice_9 : decode cX7_isAdvice 9 = .ok (.isub, 1) := by decide +kernel
theorem dX7_isAdvice_10 : decode cX7_isAdvice 10 = .ok (.invokestatic 62, 3) := by decide +kernel
theorem dX7_isAdvice_13 : decode cX7_isAdvice 13 = .ok (.ireturn, 1) := by decide +kernel
theorem dX7_isBelow_0 : decode cX7_isBelow 0 = .ok (.iload_n 1, 1) := by decide +kernel
theorem dX7_isBelow_1 : decode cX7_isBelow 1 = .ok (.iconst 4, 1) := by decide +kernel
theorem dX7_isBelow_2 : decode cX7_isBelow 2 = .ok (.if_icmp .eq 22, 3) := by decide +kernel
theorem dX7_isBelow_5 : decode cX7_isBelow 5 = .ok (.iload_n 1, 1) := by decide +kernel
theorem dX7_isBelow_6 : decode cX7_isBelow 6 = .ok (.ifCond .eq 18, 3) := by decide +kernel
theorem dX7_isBelow_9 : decode cX7_isBelow 9 = .ok (.iload_n 0, 1) := by decide +kernel
theorem dX7_isBelow_10 : decode cX7_isBelow 10 = .ok (.iload_n 1, 1) := by decide +kernel
theorem dX7_isBelow_11 : decode cX7_isBelow 11 = .ok (.if_icmp .eq 13, 3) := by decide +kernel
theorem dX7_isBelow_14 : decode cX7_isBelow 14 = .ok (.iload_n 1, 1) := by decide +kernel
theorem dX7_isBelow_15 : decode cX7_isBelow 15 = .ok (.iconst 1, 1) := by decide +kernel
theorem dX7_isBelow_16 : decode cX7_isBelow 16 = .ok (.if_icmp .ne 12, 3) := by decide +kernel
theorem dX7_isBelow_19 : decode cX7_isBelow 19 = .ok (.iload_n 0, 1) := by decide +kernel
theorem dX7_isBelow_20 : decode cX7_isBelow 20 = .ok (.iconst 3, 1) := by decide +kernel
theorem dX7_isBelow_21 : decode cX7_isBelow 21 = .ok (.if_icmp .ne 7, 3) := by decide +kernel
theorem dX7_isBelow_24 : decode cX7_isBelow 24 = .ok (.iconst 1, 1) := by decide +kernel
theorem dX7_isBelow_25 : decode cX7_isBelow 25 = .ok (.goto 4, 3) := by decide +kernel
theorem dX7_isBelow_28 : decode cX7_isBelow 28 = .ok (.iconst 0, 1) := by decide +kernel
theorem dX7_isBelow_29 : decode cX7_isBelow 29 = .ok (.ireturn, 1) := by decide +kernel
theorem dX7_isPlace_0 : decode cX7_isPlace 0 = .ok (.bipush 62, 2) := by decide +kernel
theorem dX7_isPlace_2 : decode cX7_isPlace 2 = .ok (.bipush 6, 2) := by decide +kernel
theorem dX7_isPlace_4 : decode cX7_isPlace 4 = .ok (.iload_n 2, 1) := by decide +kernel
theorem dX7_isPlace_5 : decode cX7_isPlace 5 = .ok (.imul, 1) := by decide +kernel
theorem dX7_isPlace_6 : decode cX7_isPlace 6 = .ok (.iadd, 1) := by decide +kernel
theorem dX7_isPlace_7 : decode cX7_isPlace 7 = .ok (.istore_n 3, 1) := by decide +kernel
theorem dX7_isPlace_8 : decode cX7_isPlace 8 = .ok (.aload_n 0, 1) := by decide +kernel
theorem dX7_isPlace_9 : decode cX7_isPlace 9 = .ok (.iconst 2, 1) := by decide +kernel
theorem dX7_isPlace_10 : decode cX7_isPlace 10 = .ok (.bipush 10, 2) := by decide +kernel
theorem dX7_isPlace_12 : decode cX7_isPlace 12 = .ok (.iload_n 1, 1) := by decide +kernel
theorem dX7_isPlace_13 : decode cX7_isPlace 13 = .ok (.imul, 1) := by decide +kernel
theorem dX7_isPlace_14 : decode cX7_isPlace 14 = .ok (.iadd, 1) := by decide +kernel
theorem dX7_isPlace_15 : decode cX7_isPlace 15 = .ok (.iaload, 1) := by decide +kernel
theorem dX7_isPlace_16 : decode cX7_isPlace 16 = .ok (.aload_n 0, 1) := by decide +kernel
theorem dX7_isPlace_17 : decode cX7_isPlace 17 = .ok (.iload_n 3, 1) := by decide +kernel
theorem dX7_isPlace_18 : decode cX7_isPlace 18 = .ok (.iconst 2, 1) := by decide +kernel
theorem dX7_isPlace_19 : decode cX7_isPlace 19 = .ok (.iadd, 1) := by decide +kernel
theorem dX7_isPlace_20 : decode cX7_isPlace 20 = .ok (.iaload, 1) := by decide +kernel
theorem dX7_isPlace_21 : decode cX7_isPlace 21 = .ok (.invokestatic 158, 3) := by decide +kernel
theorem dX7_isPlace_24 : decode cX7_isPlace 24 = .ok (.ifCond .eq 26, 3) := by decide +kernel
theorem dX7_isPlace_27 : decode cX7_isPlace 27 = .ok (.aload_n 0, 1) := by decide +kernel
theorem dX7_isPlace_28 : decode cX7_isPlace 28 = .ok (.iload_n 3, 1) := by decide +kernel
theorem dX7_isPlace_29 : decode cX7_isPlace 29 = .ok (.iconst 3, 1) := by decide +kernel
theorem dX7_isPlace_30 : decode cX7_isPlace 30 = .ok (.iadd, 1) := by decide +kernel
theorem dX7_isPlace_31 : decode cX7_isPlace 31 = .ok (.iaload, 1) := by decide +kernel
theorem dX7_isPlace_32 : decode cX7_isPlace 32 = .ok (.bipush 6, 2) := by decide +kernel
theorem dX7_isPlace_34 : decode cX7_isPlace 34 = .ok (.if_icmp .eq 12, 3) := by decide +kernel
theorem dX7_isPlace_37 : decode cX7_isPlace 37 = .ok (.aload_n 0, 1) := by decide +kernel
theorem dX7_isPlace_38 : decode cX7_isPlace 38 = .ok (.iload_n 3, 1) := by decide +kernel
theorem dX7_isPlace_39 : decode cX7_isPlace 39 = .ok (.iconst 3, 1) := by decide +kernel
theorem dX7_isPlace_40 : decode cX7_isPlace 40 = .ok (.iadd, 1) := by decide +kernel
theorem dX7_isPlace_41 : decode cX7_isPlace 41 = .ok (.iaload, 1) := by decide +kernel
theorem dX7_isPlace_42 : decode cX7_isPlace 42 = .ok (.iload_n 1, 1) := by decide +kernel
theorem dX7_isPlace_43 : decode cX7_isPlace 43 = .ok (.if_icmp .ne 7, 3) := by decide +kernel
theorem dX7_isPlace_46 : decode cX7_isPlace 46 = .ok (.iconst 1, 1) := by decide +kernel
theorem dX7_isPlace_47 : decode cX7_isPlace 47 = .ok (.goto 4, 3) := by decide +kernel
theorem dX7_isPlace_50 : decode cX7_isPlace 50 = .ok (.iconst 0, 1) := by decide +kernel
theorem dX7_isPlace_51 : decode cX7_isPlace 51 = .ok (.ireturn, 1) := by decide +kernel
theorem dX7_callsOf_0 : decode cX7_callsOf 0 = .ok (.iconst 0, 1) := by decide +kernel
theorem dX7_callsOf_1 : decode cX7_callsOf 1 = .ok (.istore_n 2, 1) := by decide +kernel
theorem dX7_callsOf_2 : decode cX7_callsOf 2 = .ok (.iconst 0, 1) := by decide +kernel
theorem dX7_callsOf_3 : decode cX7_callsOf 3 = .ok (.istore_n 3, 1) := by decide +kernel
theorem dX7_callsOf_4 : decode cX7_callsOf 4 = .ok (.iload_n 3, 1) := by decide +kernel
theorem dX7_callsOf_5 : decode cX7_callsOf 5 = .ok (.aload_n 0, 1) := by decide +kernel
theorem dX7_callsOf_6 : decode cX7_callsOf 6 = .ok (.iconst 2, 1) := by decide +kernel
theorem dX7_callsOf_7 : decode cX7_callsOf 7 = .ok (.bipush 10, 2) := by decide +kernel
theorem dX7_callsOf_9 : decode cX7_callsOf 9 = .ok (.iload_n 1, 1) := by decide +kernel
theorem dX7_callsOf_10 : decode cX7_callsOf 10 = .ok (.imul, 1) := by decide +kernel
theorem dX7_callsOf_11 : decode cX7_callsOf 11 = .ok (.iadd, 1) := by decide +kernel
theorem dX7_callsOf_12 : decode cX7_callsOf 12 = .ok (.iconst 1, 1) := by decide +kernel
theorem dX7_callsOf_13 : decode cX7_callsOf 13 = .ok (.iadd, 1) := by decide +kernel
theorem dX7_callsOf_14 : decode cX7_callsOf 14 = .ok (.iaload, 1) := by decide +kernel
theorem dX7_callsOf_15 : decode cX7_callsOf 15 = .ok (.if_icmp .ge 46, 3) := by decide +kernel
theorem dX7_callsOf_18 : decode cX7_callsOf 18 = .ok (.iconst 2, 1) := by decide +kernel
theorem dX7_callsOf_19 : decode cX7_callsOf 19 = .ok (.bipush 10, 2) := by decide +kernel
theorem dX7_callsOf_21 : decode cX7_callsOf 21 = .ok (.iload_n 1, 1) := by decide +kernel
theorem dX7_callsOf_22 : decode cX7_callsOf 22 = .ok (.imul, 1) := by decide +kernel
theorem dX7_callsOf_23 : decode cX7_callsOf 23 = .ok (.iadd, 1) := by decide +kernel
theorem dX7_callsOf_24 : decode cX7_callsOf 24 = .ok (.iconst 2, 1) := by decide +kernel
theorem dX7_callsOf_25 : decode cX7_callsOf 25 = .ok (.iadd, 1) := by decide +kernel
theorem dX7_callsOf_26 : decode cX7_callsOf 26 = .ok (.iconst 2, 1) := by decide +kernel
theorem dX7_callsOf_27 : decode cX7_callsOf 27 = .ok (.iload_n 3, 1) := by decide +kernel
theorem dX7_callsOf_28 : decode cX7_callsOf 28 = .ok (.imul, 1) := by decide +kernel
theorem dX7_callsOf_29 : decode cX7_callsOf 29 = .ok (.iadd, 1) := by decide +kernel
theorem dX7_callsOf_30 : decode cX7_callsOf 30 = .ok (.istore 4, 2) := by decide +kernel
theorem dX7_callsOf_32 : decode cX7_callsOf 32 = .ok (.iload_n 2, 1) := by decide +kernel
theorem dX7_callsOf_33 : decode cX7_callsOf 33 = .ok (.aload_n 0, 1) := by decide +kernel
theorem dX7_callsOf_34 : decode cX7_callsOf 34 = .ok (.iload 4, 2) := by decide +kernel
theorem dX7_callsOf_36 : decode cX7_callsOf 36 = .ok (.iaload, 1) := by decide +kernel
theorem dX7_callsOf_37 : decode cX7_callsOf 37 = .ok (.iconst 1, 1) := by decide +kernel
theorem dX7_callsOf_38 : decode cX7_callsOf 38 = .ok (.if_icmp .ne 14, 3) := by decide +kernel
theorem dX7_callsOf_41 : decode cX7_callsOf 41 = .ok (.iconst 1, 1) := by decide +kernel
theorem dX7_callsOf_42 : decode cX7_callsOf 42 = .ok (.aload_n 0, 1) := by decide +kernel
theorem dX7_callsOf_43 : decode cX7_callsOf 43 = .ok (.iload 4, 2) := by decide +kernel
theorem dX7_callsOf_45 : decode cX7_callsOf 45 = .ok (.iconst 1, 1) := by decide +kernel
theorem dX7_callsOf_46 : decode cX7_callsOf 46 = .ok (.iadd, 1) := by decide +kernel
theorem dX7_callsOf_47 : decode cX7_callsOf 47 = .ok (.iaload, 1) := by decide +kernel
theorem dX7_callsOf_48 : decode cX7_callsOf 48 = .ok (.ishl, 1) := by decide +kernel
theorem dX7_callsOf_49 : decode cX7_callsOf 49 = .ok (.goto 4, 3) := by decide +kernel
theorem dX7_callsOf_52 : decode cX7_callsOf 52 = .ok (.iconst 0, 1) := by decide +kernel
theorem dX7_callsOf_53 : decode cX7_callsOf 53 = .ok (.ior, 1) := by decide +kernel
theorem dX7_callsOf_54 : decode cX7_callsOf 54 = .ok (.istore_n 2, 1) := by decide +kernel
theorem dX7_callsOf_55 : decode cX7_callsOf 55 = .ok (.iinc 3 1, 3) := by decide +kernel
theorem dX7_callsOf_58 : decode cX7_callsOf 58 = .ok (.goto (-54), 3) := by decide +kernel
theorem dX7_callsOf_61 : decode cX7_callsOf 61 = .ok (.iload_n 2, 1) := by decide +kernel
theorem dX7_callsOf_62 : decode cX7_callsOf 62 = .ok (.ireturn, 1) := by decide +kernel
theorem dX7_reachedOf_0 : decode cX7_reachedOf 0 = .ok (.aload_n 0, 1) := by decide +kernel
theorem dX7_reachedOf_1 : decode cX7_reachedOf 1 = .ok (.iload_n 1, 1) := by decide +kernel
theorem dX7_reachedOf_2 : decode cX7_reachedOf 2 = .ok (.invokestatic 162, 3) := by decide +kernel
theorem dX7_reachedOf_5 : decode cX7_reachedOf 5 = .ok (.istore_n 2, 1) := by decide +kernel
theorem dX7_reachedOf_6 : decode cX7_reachedOf 6 = .ok (.iconst 0, 1) := by decide +kernel
theorem dX7_reachedOf_7 : decode cX7_reachedOf 7 = .ok (.istore_n 3, 1) := by decide +kernel
theorem dX7_reachedOf_8 : decode cX7_reachedOf 8 = .ok (.iload_n 3, 1) := by decide +kernel
theorem dX7_reachedOf_9 : decode cX7_reachedOf 9 = .ok (.bipush 6, 2) := by decide +kernel
theorem dX7_reachedOf_11 : decode cX7_reachedOf 11 = .ok (.if_icmp .ge 48, 3) := by decide +kernel
theorem dX7_reachedOf_14 : decode cX7_reachedOf 14 = .ok (.iconst 0, 1) := by decide +kernel
theorem dX7_reachedOf_15 : decode cX7_reachedOf 15 = .ok (.istore 4, 2) := by decide +kernel
theorem dX7_reachedOf_17 : decode cX7_reachedOf 17 = .ok (.iload 4, 2) := by decide +kernel
theorem dX7_reachedOf_19 : decode cX7_reachedOf 19 = .ok (.aload_n 0, 1) := by decide +kernel
theorem dX7_reachedOf_20 : decode cX7_reachedOf 20 = .ok (.iconst 0, 1) := by decide +kernel
theorem dX7_reachedOf_21 : decode cX7_reachedOf 21 = .ok (.iaload, 1) := by decide +kernel
theorem dX7_reachedOf_22 : decode cX7_reachedOf 22 = .ok (.if_icmp .ge 31, 3) := by decide +kernel
theorem dX7_reachedOf_25 : decode cX7_reachedOf 25 = .ok (.iload_n 2, 1) := by decide +kernel
theorem dX7_reachedOf_26 : decode cX7_reachedOf 26 = .ok (.iload_n 2, 1) := by decide +kernel
theorem dX7_reachedOf_27 : decode cX7_reachedOf 27 = .ok (.iload 4, 2) := by decide +kernel
theorem dX7_reachedOf_29 : decode cX7_reachedOf 29 = .ok (.invokestatic 166, 3) := by decide +kernel
theorem dX7_reachedOf_32 : decode cX7_reachedOf 32 = .ok (.ifCond .eq 12, 3) := by decide +kernel
theorem dX7_reachedOf_35 : decode cX7_reachedOf 35 = .ok (.aload_n 0, 1) := by decide +kernel
theorem dX7_reachedOf_36 : decode cX7_reachedOf 36 = .ok (.iload 4, 2) := by decide +kernel
theorem dX7_reachedOf_38 : decode cX7_reachedOf 38 = .ok (.invokestatic 162, 3) := by decide +kernel
theorem dX7_reachedOf_41 : decode cX7_reachedOf 41 = .ok (.goto 4, 3) := by decide +kernel
theorem dX7_reachedOf_44 : decode cX7_reachedOf 44 = .ok (.iconst 0, 1) := by decide +kernel
theorem dX7_reachedOf_45 : decode cX7_reachedOf 45 = .ok (.ior, 1) := by decide +kernel
theorem dX7_reachedOf_46 : decode cX7_reachedOf 46 = .ok (.istore_n 2, 1) := by decide +kernel
theorem dX7_reachedOf_47 : decode cX7_reachedOf 47 = .ok (.iinc 4 1, 3) := by decide +kernel
theorem dX7_reachedOf_50 : decode cX7_reachedOf 50 = .ok (.goto (-33), 3) := by decide +kernel
theorem dX7_reachedOf_53 : decode cX7_reachedOf 53 = .ok (.iinc 3 1, 3) := by decide +kernel
theorem dX7_reachedOf_56 : decode cX7_reachedOf 56 = .ok (.goto (-48), 3) := by decide +kernel
theorem dX7_reachedOf_59 : decode cX7_reachedOf 59 = .ok (.iload_n 2, 1) := by decide +kernel
theorem dX7_reachedOf_60 : decode cX7_reachedOf 60 = .ok (.ireturn, 1) := by decide +kernel
theorem dX7_aheadOf_0 : decode cX7_aheadOf 0 = .ok (.bipush 62, 2) := by decide +kernel
theorem dX7_aheadOf_2 : decode cX7_aheadOf 2 = .ok (.bipush 6, 2) := by decide +kernel
theorem dX7_aheadOf_4 : decode cX7_aheadOf 4 = .ok (.iload_n 2, 1) := by decide +kernel
theorem dX7_aheadOf_5 : decode cX7_aheadOf 5 = .ok (.imul, 1) := by decide +kernel
theorem dX7_aheadOf_6 : decode cX7_aheadOf 6 = .ok (.iadd, 1) := by decide +kernel
theorem dX7_aheadOf_7 : decode cX7_aheadOf 7 = .ok (.istore_n 3, 1) := by decide +kernel
theorem dX7_aheadOf_8 : decode cX7_aheadOf 8 = .ok (.aload_n 0, 1) := by decide +kernel
theorem dX7_aheadOf_9 : decode cX7_aheadOf 9 = .ok (.iload_n 3, 1) := by decide +kernel
theorem dX7_aheadOf_10 : decode cX7_aheadOf 10 = .ok (.iconst 5, 1) := by decide +kernel
theorem dX7_aheadOf_11 : decode cX7_aheadOf 11 = .ok (.iadd, 1) := by decide +kernel
theorem dX7_aheadOf_12 : decode cX7_aheadOf 12 = .ok (.iaload, 1) := by decide +kernel
theorem dX7_aheadOf_13 : decode cX7_aheadOf 13 = .ok (.istore 4, 2) := by decide +kernel
theorem dX7_aheadOf_15 : decode cX7_aheadOf 15 = .ok (.iload 4, 2) := by decide +kernel
theorem dX7_aheadOf_17 : decode cX7_aheadOf 17 = .ok (.bipush 6, 2) := by decide +kernel
theorem dX7_aheadOf_19 : decode cX7_aheadOf 19 = .ok (.if_icmp .eq 30, 3) := by decide +kernel
theorem dX7_aheadOf_22 : decode cX7_aheadOf 22 = .ok (.iload 4, 2) := by decide +kernel
theorem dX7_aheadOf_24 : decode cX7_aheadOf 24 = .ok (.aload_n 0, 1) := by decide +kernel
theorem dX7_aheadOf_25 : decode cX7_aheadOf 25 = .ok (.iconst 0, 1) := by decide +kernel
theorem dX7_aheadOf_26 : decode cX7_aheadOf 26 = .ok (.iaload, 1) := by decide +kernel
theorem dX7_aheadOf_27 : decode cX7_aheadOf 27 = .ok (.if_icmp .ge 26, 3) := by decide +kernel
theorem dX7_aheadOf_30 : decode cX7_aheadOf 30 = .ok (.iload 4, 2) := by decide +kernel
theorem dX7_aheadOf_32 : decode cX7_aheadOf 32 = .ok (.iload_n 1, 1) := by decide +kernel
theorem dX7_aheadOf_33 : decode cX7_aheadOf 33 = .ok (.if_icmp .eq 16, 3) := by decide +kernel
theorem dX7_aheadOf_36 : decode cX7_aheadOf 36 = .ok (.aload_n 0, 1) := by decide +kernel
theorem dX7_aheadOf_37 : decode cX7_aheadOf 37 = .ok (.iload 4, 2) := by decide +kernel
theorem dX7_aheadOf_39 : decode cX7_aheadOf 39 = .ok (.invokestatic 169, 3) := by decide +kernel
theorem dX7_aheadOf_42 : decode cX7_aheadOf 42 = .ok (.iload_n 1, 1) := by decide +kernel
theorem dX7_aheadOf_43 : decode cX7_aheadOf 43 = .ok (.invokestatic 166, 3) := by decide +kernel
theorem dX7_aheadOf_46 : decode cX7_aheadOf 46 = .ok (.ifCond .eq 7, 3) := by decide +kernel
theorem dX7_aheadOf_49 : decode cX7_aheadOf 49 = .ok (.iconst 1, 1) := by decide +kernel
theorem dX7_aheadOf_50 : decode cX7_aheadOf 50 = .ok (.goto 4, 3) := by decide +kernel
theorem dX7_aheadOf_53 : decode cX7_aheadOf 53 = .ok (.iconst 0, 1) := by decide +kernel
theorem dX7_aheadOf_54 : decode cX7_aheadOf 54 = .ok (.istore 5, 2) := by decide +kernel
theorem dX7_aheadOf_56 : decode cX7_aheadOf 56 = .ok (.aload_n 0, 1) := by decide +kernel
theorem dX7_aheadOf_57 : decode cX7_aheadOf 57 = .ok (.iload_n 1, 1) := by decide +kernel
theorem dX7_aheadOf_58 : decode cX7_aheadOf 58 = .ok (.iload_n 2, 1) := by decide +kernel
theorem dX7_aheadOf_59 : decode cX7_aheadOf 59 = .ok (.invokestatic 172, 3) := by decide +kernel
theorem dX7_aheadOf_62 : decode cX7_aheadOf 62 = .ok (.ifCond .eq 16, 3) := by decide +kernel
theorem dX7_aheadOf_65 : decode cX7_aheadOf 65 = .ok (.aload_n 0, 1) := by decide +kernel
theorem dX7_aheadOf_66 : decode cX7_aheadOf 66 = .ok (.iload_n 3, 1) := by decide +kernel
theorem dX7_aheadOf_67 : decode cX7_aheadOf 67 = .ok (.iconst 4, 1) := by decide +kernel
theorem dX7_aheadOf_68 : decode cX7_aheadOf 68 = .ok (.iadd, 1) := by decide +kernel
theorem dX7_aheadOf_69 : decode cX7_aheadOf 69 = .ok (.iaload, 1) := by decide +kernel
theorem dX7_aheadOf_70 : decode cX7_aheadOf 70 = .ok (.ifCond .eq 8, 3) := by decide +kernel
theorem dX7_aheadOf_73 : decode cX7_aheadOf 73 = .ok (.iload 5, 2) := by decide +kernel
theorem dX7_aheadOf_75 : decode cX7_aheadOf 75 = .ok (.ifCond .ne 5, 3) := by decide +kernel
theorem dX7_aheadOf_78 : decode cX7_aheadOf 78 = .ok (.iconst 0, 1) := by decide +kernel
theorem dX7_aheadOf_79 : decode cX7_aheadOf 79 = .ok (.ireturn, 1) := by decide +kernel
theorem dX7_aheadOf_80 : decode cX7_aheadOf 80 = .ok (.aload_n 0, 1) := by decide +kernel
theorem dX7_aheadOf_81 : decode cX7_aheadOf 81 = .ok (.iload_n 3, 1) := by decide +kernel
theorem dX7_aheadOf_82 : decode cX7_aheadOf 82 = .ok (.iconst 4, 1) := by decide +kernel
theorem dX7_aheadOf_83 : decode cX7_aheadOf 83 = .ok (.iadd, 1) := by decide +kernel
theorem dX7_aheadOf_84 : decode cX7_aheadOf 84 = .ok (.iaload, 1) := by decide +kernel
theorem dX7_aheadOf_85 : decode cX7_aheadOf 85 = .ok (.bipush 10, 2) := by decide +kernel
theorem dX7_aheadOf_87 : decode cX7_aheadOf 87 = .ok (.if_icmp .ne 20, 3) := by decide +kernel
theorem dX7_aheadOf_90 : decode cX7_aheadOf 90 = .ok (.iload 4, 2) := by decide +kernel
theorem dX7_aheadOf_92 : decode cX7_aheadOf 92 = .ok (.bipush 6, 2) := by decide +kernel
theorem dX7_aheadOf_94 : decode cX7_aheadOf 94 = .ok (.if_icmp .eq 9, 3) := by decide +kernel
theorem dX7_aheadOf_97 : decode cX7_aheadOf 97 = .ok (.iload 4, 2) := by decide +kernel
theorem dX7_aheadOf_99 : decode cX7_aheadOf 99 = .ok (.iload_n 1, 1) := by decide +kernel
theorem dX7_aheadOf_100 : decode cX7_aheadOf 100 = .ok (.if_icmp .ne 7, 3) := by decide +kernel
theorem dX7_aheadOf_103 : decode cX7_aheadOf 103 = .ok (.iconst 1, 1) := by decide +kernel
theorem dX7_aheadOf_104 : decode cX7_aheadOf 104 = .ok (.goto 4, 3) := by decide +kernel
theorem dX7_aheadOf_107 : decode cX7_aheadOf 107 = .ok (.iconst 2, 1) := by decide +kernel
theorem dX7_aheadOf_108 : decode cX7_aheadOf 108 = .ok (.ireturn, 1) := by decide +kernel
theorem dX7_emits_0 : decode cX7_emits 0 = .ok (.aload_n 0, 1) := by decide +kernel
theorem dX7_emits_1 : decode cX7_emits 1 = .ok (.getfield 176, 3) := by decide +kernel
theorem dX7_emits_4 : decode cX7_emits 4 = .ok (.bipush 99, 2) := by decide +kernel
theorem dX7_emits_6 : decode cX7_emits 6 = .ok (.if_icmp .ne 11, 3) := by decide +kernel
theorem dX7_emits_9 : decode cX7_emits 9 = .ok (.aload_n 0, 1) := by decide +kernel
theorem dX7_emits_10 : decode cX7_emits 10 = .ok (.iconst 1, 1) := by decide +kernel
theorem dX7_emits_11 : decode cX7_emits 11 = .ok (.putfield 179, 3) := by decide +kernel
theorem dX7_emits_14 : decode cX7_emits 14 = .ok (.goto 23, 3) := by decide +kernel
theorem dX7_emits_17 : decode cX7_emits 17 = .ok (.aload_n 0, 1) := by decide +kernel
theorem dX7_emits_18 : decode cX7_emits 18 = .ok (.getfield 50, 3) := by decide +kernel
theorem dX7_emits_21 : decode cX7_emits 21 = .ok (.aload_n 0, 1) := by decide +kernel
theorem dX7_emits_22 : decode cX7_emits 22 = .ok (.getfield 176, 3) := by decide +kernel
theorem dX7_emits_25 : decode cX7_emits 25 = .ok (.iload_n 1, 1) := by decide +kernel
theorem dX7_emits_26 : decode cX7_emits 26 = .ok (.iastore, 1) := by decide +kernel
theorem dX7_emits_27 : decode cX7_emits 27 = .ok (.aload_n 0, 1) := by decide +kernel
theorem dX7_emits_28 : decode cX7_emits 28 = .ok (.dup, 1) := by decide +kernel
theorem dX7_emits_29 : decode cX7_emits 29 = .ok (.getfield 176, 3) := by decide +kernel
theorem dX7_emits_32 : decode cX7_emits 32 = .ok (.iconst 1, 1) := by decide +kernel
theorem dX7_emits_33 : decode cX7_emits 33 = .ok (.iadd, 1) := by decide +kernel
theorem dX7_emits_34 : decode cX7_emits 34 = .ok (.putfield 176, 3) := by decide +kernel
theorem dX7_emits_37 : decode cX7_emits 37 = .ok (.return_, 1) := by decide +kernel
theorem dX7_pushes_0 : decode cX7_pushes 0 = .ok (.bipush 7, 2) := by decide +kernel
theorem dX7_pushes_2 : decode cX7_pushes 2 = .ok (.aload_n 0, 1) := by decide +kernel
theorem dX7_pushes_3 : decode cX7_pushes 3 = .ok (.getfield 183, 3) := by decide +kernel
theorem dX7_pushes_6 : decode cX7_pushes 6 = .ok (.imul, 1) := by decide +kernel
theorem dX7_pushes_7 : decode cX7_pushes 7 = .ok (.istore 6, 2) := by decide +kernel
theorem dX7_pushes_9 : decode cX7_pushes 9 = .ok (.aload_n 0, 1) := by decide +kernel
theorem dX7_pushes_10 : decode cX7_pushes 10 = .ok (.getfield 44, 3) := by decide +kernel
theorem dX7_pushes_13 : decode cX7_pushes 13 = .ok (.iload 6, 2) := by decide +kernel
theorem dX7_pushes_15 : decode cX7_pushes 15 = .ok (.iconst 0, 1) := by decide +kernel
theorem dX7_pushes_16 : decode cX7_pushes 16 = .ok (.iadd, 1) := by decide +kernel
theorem dX7_pushes_17 : decode cX7_pushes 17 = .ok (.iload_n 1, 1) := by decide +kernel
theorem dX7_pushes_18 : decode cX7_pushes 18 = .ok (.iastore, 1) := by decide +kernel
theorem dX7_pushes_19 : decode cX7_pushes 19 = .ok (.aload_n 0, 1) := by decide +kernel
theorem dX7_pushes_20 : decode cX7_pushes 20 = .ok (.getfield 44, 3) := by decide +kernel
theorem dX7_pushes_23 : decode cX7_pushes 23 = .ok (.iload 6, 2) := by decide +kernel
theorem dX7_pushes_25 : decode cX7_pushes 25 = .ok (.iconst 1, 1) := by decide +kernel
theorem dX7_pushes_26 : decode cX7_pushes 26 = .ok (.iadd, 1) := by decide +kernel
theorem dX7_pushes_27 : decode cX7_pushes 27 = .ok (.iload_n 2, 1) := by decide +kernel
theorem dX7_pushes_28 : decode cX7_pushes 28 = .ok (.iastore, 1) := by decide +kernel
theorem dX7_pushes_29 : decode cX7_pushes 29 = .ok (.aload_n 0, 1) := by decide +kernel
theorem dX7_pushes_30 : decode cX7_pushes 30 = .ok (.getfield 44, 3) := by decide +kernel
theorem dX7_pushes_33 : decode cX7_pushes 33 = .ok (.iload 6, 2) := by decide +kernel
theorem dX7_pushes_35 : decode cX7_pushes 35 = .ok (.iconst 2, 1) := by decide +kernel
theorem dX7_pushes_36 : decode cX7_pushes 36 = .ok (.iadd, 1) := by decide +kernel
theorem dX7_pushes_37 : decode cX7_pushes 37 = .ok (.iload_n 3, 1) := by decide +kernel
theorem dX7_pushes_38 : decode cX7_pushes 38 = .ok (.iastore, 1) := by decide +kernel
theorem dX7_pushes_39 : decode cX7_pushes 39 = .ok (.aload_n 0, 1) := by decide +kernel
theorem dX7_pushes_40 : decode cX7_pushes 40 = .ok (.getfield 44, 3) := by decide +kernel
theorem dX7_pushes_43 : decode cX7_pushes 43 = .ok (.iload 6, 2) := by decide +kernel
theorem dX7_pushes_45 : decode cX7_pushes 45 = .ok (.iconst 3, 1) := by decide +kernel
theorem dX7_pushes_46 : decode cX7_pushes 46 = .ok (.iadd, 1) := by decide +kernel
theorem dX7_pushes_47 : decode cX7_pushes 47 = .ok (.iload 4, 2) := by decide +kernel
theorem dX7_pushes_49 : decode cX7_pushes 49 = .ok (.iastore, 1) := by decide +kernel
theorem dX7_pushes_50 : decode cX7_pushes 50 = .ok (.aload_n 0, 1) := by decide +kernel
theorem dX7_pushes_51 : decode cX7_pushes 51 = .ok (.getfield 44, 3) := by decide +kernel
theorem dX7_pushes_54 : decode cX7_pushes 54 = .ok (.iload 6, 2) := by decide +kernel
theorem dX7_pushes_56 : decode cX7_pushes 56 = .ok (.iconst 4, 1) := by decide +kernel
theorem dX7_pushes_57 : decode cX7_pushes 57 = .ok (.iadd, 1) := by decide +kernel
theorem dX7_pushes_58 : decode cX7_pushes 58 = .ok (.iload 5, 2) := by decide +kernel
theorem dX7_pushes_60 : decode cX7_pushes 60 = .ok (.iastore, 1) := by decide +kernel
theorem dX7_pushes_61 : decode cX7_pushes 61 = .ok (.aload_n 0, 1) := by decide +kernel
theorem dX7_pushes_62 : decode cX7_pushes 62 = .ok (.getfield 44, 3) := by decide +kernel
theorem dX7_pushes_65 : decode cX7_pushes 65 = .ok (.iload 6, 2) := by decide +kernel
theorem dX7_pushes_67 : decode cX7_pushes 67 = .ok (.iconst 5, 1) := by decide +kernel
theorem dX7_pushes_68 : decode cX7_pushes 68 = .ok (.iadd, 1) := by decide +kernel
theorem dX7_pushes_69 : decode cX7_pushes 69 = .ok (.iconst (-1), 1) := by decide +kernel
theorem dX7_pushes_70 : decode cX7_pushes 70 = .ok (.iastore, 1) := by decide +kernel
theorem dX7_pushes_71 : decode cX7_pushes 71 = .ok (.aload_n 0, 1) := by decide +kernel
theorem dX7_pushes_72 : decode cX7_pushes 72 = .ok (.getfield 44, 3) := by decide +kernel
theorem dX7_pushes_75 : decode cX7_pushes 75 = .ok (.iload 6, 2) := by decide +kernel
theorem dX7_pushes_77 : decode cX7_pushes 77 = .ok (.bipush 6, 2) := by decide +kernel
theorem dX7_pushes_79 : decode cX7_pushes 79 = .ok (.iadd, 1) := by decide +kernel
theorem dX7_pushes_80 : decode cX7_pushes 80 = .ok (.iload_n 3, 1) := by decide +kernel
theorem dX7_pushes_81 : decode cX7_pushes 81 = .ok (.iastore, 1) := by decide +kernel
theorem dX7_pushes_82 : decode cX7_pushes 82 = .ok (.aload_n 0, 1) := by decide +kernel
theorem dX7_pushes_83 : decode cX7_pushes 83 = .ok (.dup, 1) := by decide +kernel
theorem dX7_pushes_84 : decode cX7_pushes 84 = .ok (.getfield 183, 3) := by decide +kernel
theorem dX7_pushes_87 : decode cX7_pushes 87 = .ok (.iconst 1, 1) := by decide +kernel
theorem dX7_pushes_88 : decode cX7_pushes 88 = .ok (.iadd, 1) := by decide +kernel
theorem dX7_pushes_89 : decode cX7_pushes 89 = .ok (.putfield 183, 3) := by decide +kernel
theorem dX7_pushes_92 : decode cX7_pushes 92 = .ok (.return_, 1) := by decide +kernel
theorem dX7_goesOn_0 : decode cX7_goesOn 0 = .ok (.iload 5, 2) := by decide +kernel
theorem dX7_goesOn_2 : decode cX7_goesOn 2 = .ok (.istore 6, 2) := by decide +kernel
theorem dX7_goesOn_4 : decode cX7_goesOn 4 = .ok (.iload 6, 2) := by decide +kernel
theorem dX7_goesOn_6 : decode cX7_goesOn 6 = .ok (.aload_n 1, 1) := by decide +kernel
theorem dX7_goesOn_7 : decode cX7_goesOn 7 = .ok (.iconst 1, 1) := by decide +kernel
theorem dX7_goesOn_8 : decode cX7_goesOn 8 = .ok (.iaload, 1) := by decide +kernel
theorem dX7_goesOn_9 : decode cX7_goesOn 9 = .ok (.if_icmp .ge 19, 3) := by decide +kernel
theorem dX7_goesOn_12 : decode cX7_goesOn 12 = .ok (.iload 4, 2) := by decide +kernel
theorem dX7_goesOn_14 : decode cX7_goesOn 14 = .ok (.iload 6, 2) := by decide +kernel
theorem dX7_goesOn_16 : decode cX7_goesOn 16 = .ok (.invokestatic 166, 3) := by decide +kernel
theorem dX7_goesOn_19 : decode cX7_goesOn 19 = .ok (.ifCond .ne 9, 3) := by decide +kernel
theorem dX7_goesOn_22 : decode cX7_goesOn 22 = .ok (.iinc 6 1, 3) := by decide +kernel
theorem dX7_goesOn_25 : decode cX7_goesOn 25 = .ok (.goto (-21), 3) := by decide +kernel
theorem dX7_goesOn_28 : decode cX7_goesOn 28 = .ok (.aload_n 0, 1) := by decide +kernel
theorem dX7_goesOn_29 : decode cX7_goesOn 29 = .ok (.iload 6, 2) := by decide +kernel
theorem dX7_goesOn_31 : decode cX7_goesOn 31 = .ok (.aload_n 1, 1) := by decide +kernel
theorem dX7_goesOn_32 : decode cX7_goesOn 32 = .ok (.iconst 1, 1) := by decide +kernel
theorem dX7_goesOn_33 : decode cX7_goesOn 33 = .ok (.iaload, 1) := by decide +kernel
theorem dX7_goesOn_34 : decode cX7_goesOn 34 = .ok (.if_icmp .ge 7, 3) := by decide +kernel
theorem dX7_goesOn_37 : decode cX7_goesOn 37 = .ok (.iconst 1, 1) := by decide +kernel
theorem dX7_goesOn_38 : decode cX7_goesOn 38 = .ok (.goto 4, 3) := by decide +kernel
theorem dX7_goesOn_41 : decode cX7_goesOn 41 = .ok (.iconst 2, 1) := by decide +kernel
theorem dX7_goesOn_42 : decode cX7_goesOn 42 = .ok (.iload_n 2, 1) := by decide +kernel
theorem dX7_goesOn_43 : decode cX7_goesOn 43 = .ok (.iload_n 3, 1) := by decide +kernel
theorem dX7_goesOn_44 : decode cX7_goesOn 44 = .ok (.iload 4, 2) := by decide +kernel
theorem dX7_goesOn_46 : decode cX7_goesOn 46 = .ok (.iload 6, 2) := by decide +kernel
theorem dX7_goesOn_48 : decode cX7_goesOn 48 = .ok (.aload_n 1, 1) := by decide +kernel
theorem dX7_goesOn_49 : decode cX7_goesOn 49 = .ok (.iconst 1, 1) := by decide +kernel
theorem dX7_goesOn_50 : decode cX7_goesOn 50 = .ok (.iaload, 1) := by decide +kernel
theorem dX7_goesOn_51 : decode cX7_goesOn 51 = .ok (.if_icmp .ge 8, 3) := by decide +kernel
theorem dX7_goesOn_54 : decode cX7_goesOn 54 = .ok (.iload 6, 2) := by decide +kernel
theorem dX7_goesOn_56 : decode cX7_goesOn 56 = .ok (.goto 4, 3) := by decide +kernel
theorem dX7_goesOn_59 : decode cX7_goesOn 59 = .ok (.iconst 0, 1) := by decide +kernel
theorem dX7_goesOn_60 : decode cX7_goesOn 60 = .ok (.invokevirtual 186, 3) := by decide +kernel
theorem dX7_goesOn_63 : decode cX7_goesOn 63 = .ok (.return_, 1) := by decide +kernel
theorem dX7_callsBy_0 : decode cX7_callsBy 0 = .ok (.aload_n 0, 1) := by decide +kernel
theorem dX7_callsBy_1 : decode cX7_callsBy 1 = .ok (.getfield 190, 3) := by decide +kernel
theorem dX7_callsBy_4 : decode cX7_callsBy 4 = .ok (.sipush 300, 3) := by decide +kernel
theorem dX7_callsBy_7 : decode cX7_callsBy 7 = .ok (.if_icmp .ne 9, 3) := by decide +kernel
theorem dX7_callsBy_10 : decode cX7_callsBy 10 = .ok (.aload_n 0, 1) := by decide +kernel
theorem dX7_callsBy_11 : decode cX7_callsBy 11 = .ok (.iconst 1, 1) := by decide +kernel
theorem dX7_callsBy_12 : decode cX7_callsBy 12 = .ok (.putfield 179, 3) := by decide +kernel
theorem dX7_callsBy_15 : decode cX7_callsBy 15 = .ok (.return_, 1) := by decide +kernel
theorem dX7_callsBy_16 : decode cX7_callsBy 16 = .ok (.aload_n 0, 1) := by decide +kernel
theorem dX7_callsBy_17 : decode cX7_callsBy 17 = .ok (.dup, 1) := by decide +kernel
theorem dX7_callsBy_18 : decode cX7_callsBy 18 = .ok (.getfield 190, 3) := by decide +kernel
theorem dX7_callsBy_21 : decode cX7_callsBy 21 = .ok (.iconst 1, 1) := by decide +kernel
theorem dX7_callsBy_22 : decode cX7_callsBy 22 = .ok (.iadd, 1) := by decide +kernel
theorem dX7_callsBy_23 : decode cX7_callsBy 23 = .ok (.putfield 190, 3) := by decide +kernel
theorem dX7_callsBy_26 : decode cX7_callsBy 26 = .ok (.aload_n 0, 1) := by decide +kernel
theorem dX7_callsBy_27 : decode cX7_callsBy 27 = .ok (.getfield 47, 3) := by decide +kernel
theorem dX7_callsBy_30 : decode cX7_callsBy 30 = .ok (.iload_n 2, 1) := by decide +kernel
theorem dX7_callsBy_31 : decode cX7_callsBy 31 = .ok (.dup2, 1) := by decide +kernel
theorem dX7_callsBy_32 : decode cX7_callsBy 32 = .ok (.iaload, 1) := by decide +kernel
theorem dX7_callsBy_33 : decode cX7_callsBy 33 = .ok (.iconst 1, 1) := by decide +kernel
theorem dX7_callsBy_34 : decode cX7_callsBy 34 = .ok (.iadd, 1) := by decide +kernel
theorem dX7_callsBy_35 : decode cX7_callsBy 35 = .ok (.iastore, 1) := by decide +kernel
theorem dX7_callsBy_36 : decode cX7_callsBy 36 = .ok (.iconst 0, 1) := by decide +kernel
theorem dX7_callsBy_37 : decode cX7_callsBy 37 = .ok (.istore 4, 2) := by decide +kernel
theorem dX7_callsBy_39 : decode cX7_callsBy 39 = .ok (.iconst 0, 1) := by decide +kernel
theorem dX7_callsBy_40 : decode cX7_callsBy 40 = .ok (.istore 5, 2) := by decide +kernel
theorem dX7_callsBy_42 : decode cX7_callsBy 42 = .ok (.iload 5, 2) := by decide +kernel
theorem dX7_callsBy_44 : decode cX7_callsBy 44 = .ok (.aload_n 1, 1) := by decide +kernel
theorem dX7_callsBy_45 : decode cX7_callsBy 45 = .ok (.iconst 1, 1) := by decide +kernel
theorem dX7_callsBy_46 : decode cX7_callsBy 46 = .ok (.iaload, 1) := by decide +kernel
theorem dX7_callsBy_47 : decode cX7_callsBy 47 = .ok (.if_icmp .ge 121, 3) := by decide +kernel
theorem dX7_callsBy_50 : decode cX7_callsBy 50 = .ok (.bipush 62, 2) := by decide +kernel
theorem dX7_callsBy_52 : decode cX7_callsBy 52 = .ok (.bipush 6, 2) := by decide +kernel
theorem dX7_callsBy_54 : decode cX7_callsBy 54 = .ok (.iload 5, 2) := by decide +kernel
theorem dX7_callsBy_56 : decode cX7_callsBy 56 = .ok (.imul, 1) := by decide +kernel
theorem dX7_callsBy_57 : decode cX7_callsBy 57 = .ok (.iadd, 1) := by decide +kernel
theorem dX7_callsBy_58 : decode cX7_callsBy 58 = .ok (.istore 6, 2) := by decide +kernel
theorem dX7_callsBy_60 : decode cX7_callsBy 60 = .ok (.aload_n 1, 1) := by decide +kernel
theorem dX7_callsBy_61 : decode cX7_callsBy 61 = .ok (.iload 6, 2) := by decide +kernel
theorem dX7_callsBy_63 : decode cX7_callsBy 63 = .ok (.iconst 5, 1) := by decide +kernel
theorem dX7_callsBy_64 : decode cX7_callsBy 64 = .ok (.iadd, 1) := by decide +kernel
theorem dX7_callsBy_65 : decode cX7_callsBy 65 = .ok (.iaload, 1) := by decide +kernel
theorem dX7_callsBy_66 : decode cX7_callsBy 66 = .ok (.istore 7, 2) := by decide +kernel
theorem dX7_callsBy_68 : decode cX7_callsBy 68 = .ok (.iload 7, 2) := by decide +kernel
theorem dX7_callsBy_70 : decode cX7_callsBy 70 = .ok (.bipush 6, 2) := by decide +kernel
theorem dX7_callsBy_72 : decode cX7_callsBy 72 = .ok (.if_icmp .eq 20, 3) := by decide +kernel
theorem dX7_callsBy_75 : decode cX7_callsBy 75 = .ok (.iload 7, 2) := by decide +kernel
theorem dX7_callsBy_77 : decode cX7_callsBy 77 = .ok (.bipush 6, 2) := by decide +kernel
theorem dX7_callsBy_79 : decode cX7_callsBy 79 = .ok (.if_icmp .ge 17, 3) := by decide +kernel
theorem dX7_callsBy_82 : decode cX7_callsBy 82 = .ok (.aload_n 0, 1) := by decide +kernel
theorem dX7_callsBy_83 : decode cX7_callsBy 83 = .ok (.getfield 47, 3) := by decide +kernel
theorem dX7_callsBy_86 : decode cX7_callsBy 86 = .ok (.iload 7, 2) := by decide +kernel
theorem dX7_callsBy_88 : decode cX7_callsBy 88 = .ok (.iaload, 1) := by decide +kernel
theorem dX7_callsBy_89 : decode cX7_callsBy 89 = .ok (.ifCond .le 7, 3) := by decide +kernel
theorem dX7_callsBy_92 : decode cX7_callsBy 92 = .ok (.iconst 1, 1) := by decide +kernel
theorem dX7_callsBy_93 : decode cX7_callsBy 93 = .ok (.goto 4, 3) := by decide +kernel
theorem dX7_callsBy_96 : decode cX7_callsBy 96 = .ok (.iconst 0, 1) := by decide +kernel
theorem dX7_callsBy_97 : decode cX7_callsBy 97 = .ok (.istore 8, 2) := by decide +kernel
theorem dX7_callsBy_99 : decode cX7_callsBy 99 = .ok (.iload 4, 2) := by decide +kernel
theorem dX7_callsBy_101 : decode cX7_callsBy 101 = .ok (.aload_n 1, 1) := by decide +kernel
theorem dX7_callsBy_102 : decode cX7_callsBy 102 = .ok (.iload_n 2, 1) := by decide +kernel
theorem dX7_callsBy_103 : decode cX7_callsBy 103 = .ok (.iload 5, 2) := by decide +kernel
theorem dX7_callsBy_105 : decode cX7_callsBy 105 = .ok (.invokestatic 172, 3) := by decide +kernel
theorem dX7_callsBy_108 : decode cX7_callsBy 108 = .ok (.ifCond .eq 25, 3) := by decide +kernel
theorem dX7_callsBy_111 : decode cX7_callsBy 111 = .ok (.iload_n 3, 1) := by decide +kernel
theorem dX7_callsBy_112 : decode cX7_callsBy 112 = .ok (.aload_n 1, 1) := by decide +kernel
theorem dX7_callsBy_113 : decode cX7_callsBy 113 = .ok (.iload 6, 2) := by decide +kernel
theorem dX7_callsBy_115 : decode cX7_callsBy 115 = .ok (.iconst 4, 1) := by decide +kernel
theorem dX7_callsBy_116 : decode cX7_callsBy 116 = .ok (.iadd, 1) := by decide +kernel
theorem dX7_callsBy_117 : decode cX7_callsBy 117 = .ok (.iaload, 1) := by decide +kernel
theorem dX7_callsBy_118 : decode cX7_callsBy 118 = .ok (.if_icmp .ge 15, 3) := by decide +kernel
theorem dX7_callsBy_121 : decode cX7_callsBy 121 = .ok (.iload 8, 2) := by decide +kernel
theorem dX7_callsBy_123 : decode cX7_callsBy 123 = .ok (.ifCond .eq 10, 3) := by decide +kernel
theorem dX7_callsBy_126 : decode cX7_callsBy 126 = .ok (.iconst 1, 1) := by decide +kernel
theorem dX7_callsBy_127 : decode cX7_callsBy 127 = .ok (.iload 5, 2) := by decide +kernel
theorem dX7_callsBy_129 : decode cX7_callsBy 129 = .ok (.ishl, 1) := by decide +kernel
theorem dX7_callsBy_130 : decode cX7_callsBy 130 = .ok (.goto 4, 3) := by decide +kernel
theorem dX7_callsBy_133 : decode cX7_callsBy 133 = .ok (.iconst 0, 1) := by decide +kernel
theorem dX7_callsBy_134 : decode cX7_callsBy 134 = .ok (.ior, 1) := by decide +kernel
theorem dX7_callsBy_135 : decode cX7_callsBy 135 = .ok (.istore 4, 2) := by decide +kernel
theorem dX7_callsBy_137 : decode cX7_callsBy 137 = .ok (.aload_n 0, 1) := by decide +kernel
theorem dX7_callsBy_138 : decode cX7_callsBy 138 = .ok (.dup, 1) := by decide +kernel
theorem dX7_callsBy_139 : decode cX7_callsBy 139 = .ok (.getfield 193, 3) := by decide +kernel
theorem dX7_callsBy_142 : decode cX7_callsBy 142 = .ok (.aload_n 1, 1) := by decide +kernel
theorem dX7_callsBy_143 : decode cX7_callsBy 143 = .ok (.iload_n 2, 1) := by decide +kernel
theorem dX7_callsBy_144 : decode cX7_callsBy 144 = .ok (.iload 5, 2) := by decide +kernel
theorem dX7_callsBy_146 : decode cX7_callsBy 146 = .ok (.invokestatic 196, 3) := by decide +kernel
theorem dX7_callsBy_149 : decode cX7_callsBy 149 = .ok (.iconst 2, 1) := by decide +kernel
theorem dX7_callsBy_150 : decode cX7_callsBy 150 = .ok (.if_icmp .ne 7, 3) := by decide +kernel
theorem dX7_callsBy_153 : decode cX7_callsBy 153 = .ok (.iconst 1, 1) := by decide +kernel
theorem dX7_callsBy_154 : decode cX7_callsBy 154 = .ok (.goto 4, 3) := by decide +kernel
theorem dX7_callsBy_157 : decode cX7_callsBy 157 = .ok (.iconst 0, 1) := by decide +kernel
theorem dX7_callsBy_158 : decode cX7_callsBy 158 = .ok (.iadd, 1) := by decide +kernel
theorem dX7_callsBy_159 : decode cX7_callsBy 159 = .ok (.putfield 193, 3) := by decide +kernel
theorem dX7_callsBy_162 : decode cX7_callsBy 162 = .ok (.iinc 5 1, 3) := by decide +kernel
theorem dX7_callsBy_165 : decode cX7_callsBy 165 = .ok (.goto (-123), 3) := by decide +kernel
theorem dX7_callsBy_168 : decode cX7_callsBy 168 = .ok (.aload_n 0, 1) := by decide +kernel
theorem dX7_callsBy_169 : decode cX7_callsBy 169 = .ok (.iconst 0, 1) := by decide +kernel
theorem dX7_callsBy_170 : decode cX7_callsBy 170 = .ok (.iload_n 2, 1) := by decide +kernel
theorem dX7_callsBy_171 : decode cX7_callsBy 171 = .ok (.iload_n 3, 1) := by decide +kernel
theorem dX7_callsBy_172 : decode cX7_callsBy 172 = .ok (.iload 4, 2) := by decide +kernel
theorem dX7_callsBy_174 : decode cX7_callsBy 174 = .ok (.iconst 0, 1) := by decide +kernel
theorem dX7_callsBy_175 : decode cX7_callsBy 175 = .ok (.invokevirtual 186, 3) := by decide +kernel
theorem dX7_callsBy_178 : decode cX7_callsBy 178 = .ok (.aload_n 0, 1) := by decide +kernel
theorem dX7_callsBy_179 : decode cX7_callsBy 179 = .ok (.aload_n 1, 1) := by decide +kernel
theorem dX7_callsBy_180 : decode cX7_callsBy 180 = .ok (.iload_n 2, 1) := by decide +kernel
theorem dX7_callsBy_181 : decode cX7_callsBy 181 = .ok (.iload_n 3, 1) := by decide +kernel
theorem dX7_callsBy_182 : decode cX7_callsBy 182 = .ok (.iload 4, 2) := by decide +kernel
theorem dX7_callsBy_184 : decode cX7_callsBy 184 = .ok (.iconst 0, 1) := by decide +kernel
theorem dX7_callsBy_185 : decode cX7_callsBy 185 = .ok (.invokevirtual 200, 3) := by decide +kernel
theorem dX7_callsBy_188 : decode cX7_callsBy 188 = .ok (.return_, 1) := by decide +kernel
theorem dX7_ends_0 : decode cX7_ends 0 = .ok (.aload_n 0, 1) := by decide +kernel
theorem dX7_ends_1 : decode cX7_ends 1 = .ok (.dup, 1) := by decide +kernel
theorem dX7_ends_2 : decode cX7_ends 2 = .ok (.getfield 183, 3) := by decide +kernel
theorem dX7_ends_5 : decode cX7_ends 5 = .ok (.iconst 1, 1) := by decide +kernel
theorem dX7_ends_6 : decode cX7_ends 6 = .ok (.isub, 1) := by decide +kernel
theorem dX7_ends_7 : decode cX7_ends 7 = .ok (.putfield 183, 3) := by decide +kernel
theorem dX7_ends_10 : decode cX7_ends 10 = .ok (.aload_n 0, 1) := by decide +kernel
theorem dX7_ends_11 : decode cX7_ends 11 = .ok (.iload_n 1, 1) := by decide +kernel
theorem dX7_ends_12 : decode cX7_ends 12 = .ok (.putfield 204, 3) := by decide +kernel
theorem dX7_ends_15 : decode cX7_ends 15 = .ok (.aload_n 0, 1) := by decide +kernel
theorem dX7_ends_16 : decode cX7_ends 16 = .ok (.iload_n 2, 1) := by decide +kernel
theorem dX7_ends_17 : decode cX7_ends 17 = .ok (.putfield 207, 3) := by decide +kernel
theorem dX7_ends_20 : decode cX7_ends 20 = .ok (.return_, 1) := by decide +kernel
theorem dX7_abouts_0 : decode cX7_abouts 0 = .ok (.aload_n 0, 1) := by decide +kernel
theorem dX7_abouts_1 : decode cX7_abouts 1 = .ok (.getfield 44, 3) := by decide +kernel
theorem dX7_abouts_4 : decode cX7_abouts 4 = .ok (.iload_n 2, 1) := by decide +kernel
theorem dX7_abouts_5 : decode cX7_abouts 5 = .ok (.iconst 4, 1) := by decide +kernel
theorem dX7_abouts_6 : decode cX7_abouts 6 = .ok (.iadd, 1) := by decide +kernel
theorem dX7_abouts_7 : decode cX7_abouts 7 = .ok (.iaload, 1) := by decide +kernel
theorem dX7_abouts_8 : decode cX7_abouts 8 = .ok (.istore 4, 2) := by decide +kernel
theorem dX7_abouts_10 : decode cX7_abouts 10 = .ok (.aload_n 1, 1) := by decide +kernel
theorem dX7_abouts_11 : decode cX7_abouts 11 = .ok (.bipush 62, 2) := by decide +kernel
theorem dX7_abouts_13 : decode cX7_abouts 13 = .ok (.bipush 6, 2) := by decide +kernel
theorem dX7_abouts_15 : decode cX7_abouts 15 = .ok (.iload 4, 2) := by decide +kernel
theorem dX7_abouts_17 : decode cX7_abouts 17 = .ok (.imul, 1) := by decide +kernel
theorem dX7_abouts_18 : decode cX7_abouts 18 = .ok (.iadd, 1) := by decide +kernel
theorem dX7_abouts_19 : decode cX7_abouts 19 = .ok (.iaload, 1) := by decide +kernel
theorem dX7_abouts_20 : decode cX7_abouts 20 = .ok (.istore 5, 2) := by decide +kernel
theorem dX7_abouts_22 : decode cX7_abouts 22 = .ok (.aload_n 1, 1) := by decide +kernel
theorem dX7_abouts_23 : decode cX7_abouts 23 = .ok (.bipush 62, 2) := by decide +kernel
theorem dX7_abouts_25 : decode cX7_abouts 25 = .ok (.bipush 6, 2) := by decide +kernel
theorem dX7_abouts_27 : decode cX7_abouts 27 = .ok (.iload 4, 2) := by decide +kernel
theorem dX7_abouts_29 : decode cX7_abouts 29 = .ok (.imul, 1) := by decide +kernel
theorem dX7_abouts_30 : decode cX7_abouts 30 = .ok (.iadd, 1) := by decide +kernel
theorem dX7_abouts_31 : decode cX7_abouts 31 = .ok (.iconst 1, 1) := by decide +kernel
theorem dX7_abouts_32 : decode cX7_abouts 32 = .ok (.iadd, 1) := by decide +kernel
theorem dX7_abouts_33 : decode cX7_abouts 33 = .ok (.iaload, 1) := by decide +kernel
theorem dX7_abouts_34 : decode cX7_abouts 34 = .ok (.istore 6, 2) := by decide +kernel
theorem dX7_abouts_36 : decode cX7_abouts 36 = .ok (.iload 5, 2) := by decide +kernel
theorem dX7_abouts_38 : decode cX7_abouts 38 = .ok (.iconst 4, 1) := by decide +kernel
theorem dX7_abouts_39 : decode cX7_abouts 39 = .ok (.if_icmp .ne 10, 3) := by decide +kernel
theorem dX7_abouts_42 : decode cX7_abouts 42 = .ok (.iload 6, 2) := by decide +kernel
theorem dX7_abouts_44 : decode cX7_abouts 44 = .ok (.iconst 3, 1) := by decide +kernel
theorem dX7_abouts_45 : decode cX7_abouts 45 = .ok (.irem, 1) := by decide +kernel
theorem dX7_abouts_46 : decode cX7_abouts 46 = .ok (.goto 4, 3) := by decide +kernel
theorem dX7_abouts_49 : decode cX7_abouts 49 = .ok (.iconst 1, 1) := by decide +kernel
theorem dX7_abouts_50 : decode cX7_abouts 50 = .ok (.istore 7, 2) := by decide +kernel
theorem dX7_abouts_52 : decode cX7_abouts 52 = .ok (.iload_n 3, 1) := by decide +kernel
theorem dX7_abouts_53 : decode cX7_abouts 53 = .ok (.ifCond .ne 15, 3) := by decide +kernel
theorem dX7_abouts_56 : decode cX7_abouts 56 = .ok (.iload 5, 2) := by decide +kernel
theorem dX7_abouts_58 : decode cX7_abouts 58 = .ok (.iconst 4, 1) := by decide +kernel
theorem dX7_abouts_59 : decode cX7_abouts 59 = .ok (.if_icmp .lt 9, 3) := by decide +kernel
theorem dX7_abouts_62 : decode cX7_abouts 62 = .ok (.aload_n 0, 1) := by decide +kernel
theorem dX7_abouts_63 : decode cX7_abouts 63 = .ok (.iload 6, 2) := by decide +kernel
theorem dX7_abouts_65 : decode cX7_abouts 65 = .ok (.invokevirtual 210, 3) := by decide +kernel
theorem dX7_abouts_68 : decode cX7_abouts 68 = .ok (.aload_n 0, 1) := by decide +kernel
theorem dX7_abouts_69 : decode cX7_abouts 69 = .ok (.getfield 44, 3) := by decide +kernel
theorem dX7_abouts_72 : decode cX7_abouts 72 = .ok (.iload_n 2, 1) := by decide +kernel
theorem dX7_abouts_73 : decode cX7_abouts 73 = .ok (.iconst 5, 1) := by decide +kernel
theorem dX7_abouts_74 : decode cX7_abouts 74 = .ok (.iadd, 1) := by decide +kernel
theorem dX7_abouts_75 : decode cX7_abouts 75 = .ok (.dup2, 1) := by decide +kernel
theorem dX7_abouts_76 : decode cX7_abouts 76 = .ok (.iaload, 1) := by decide +kernel
theorem dX7_abouts_77 : decode cX7_abouts 77 = .ok (.iconst 1, 1) := by decide +kernel
theorem dX7_abouts_78 : decode cX7_abouts 78 = .ok (.iadd, 1) := by decide +kernel
theorem dX7_abouts_79 : decode cX7_abouts 79 = .ok (.iastore, 1) := by decide +kernel
theorem dX7_abouts_80 : decode cX7_abouts 80 = .ok (.iload_n 3, 1) := by decide +kernel
theorem dX7_abouts_81 : decode cX7_abouts 81 = .ok (.ifCond .eq 40, 3) := by decide +kernel
theorem dX7_abouts_84 : decode cX7_abouts 84 = .ok (.aload_n 0, 1) := by decide +kernel
theorem dX7_abouts_85 : decode cX7_abouts 85 = .ok (.getfield 204, 3) := by decide +kernel
theorem dX7_abouts_88 : decode cX7_abouts 88 = .ok (.ifCond .le 33, 3) := by decide +kernel
theorem dX7_abouts_91 : decode cX7_abouts 91 = .ok (.iload 5, 2) := by decide +kernel
theorem dX7_abouts_93 : decode cX7_abouts 93 = .ok (.iconst 1, 1) := by decide +kernel
theorem dX7_abouts_94 : decode cX7_abouts 94 = .ok (.if_icmp .eq 9, 3) := by decide +kernel
theorem dX7_abouts_97 : decode cX7_abouts 97 = .ok (.iload 5, 2) := by decide +kernel
theorem dX7_abouts_99 : decode cX7_abouts 99 = .ok (.iconst 3, 1) := by decide +kernel
theorem dX7_abouts_100 : decode cX7_abouts 100 = .ok (.if_icmp .ne 9, 3) := by decide +kernel
theorem dX7_abouts_103 : decode cX7_abouts 103 = .ok (.aload_n 0, 1) := by decide +kernel
theorem dX7_abouts_104 : decode cX7_abouts 104 = .ok (.iload 6, 2) := by decide +kernel
theorem dX7_abouts_106 : decode cX7_abouts 106 = .ok (.invokevirtual 210, 3) := by decide +kernel
theorem dX7_abouts_109 : decode cX7_abouts 109 = .ok (.aload_n 0, 1) := by decide +kernel
theorem dX7_abouts_110 : decode cX7_abouts 110 = .ok (.aload_n 0, 1) := by decide +kernel
theorem dX7_abouts_111 : decode cX7_abouts 111 = .ok (.getfield 204, 3) := by decide +kernel
theorem dX7_abouts_114 : decode cX7_abouts 114 = .ok (.iconst 0, 1) := by decide +kernel
theorem dX7_abouts_115 : decode cX7_abouts 115 = .ok (.invokevirtual 214, 3) := by decide +kernel
theorem dX7_abouts_118 : decode cX7_abouts 118 = .ok (.goto 117, 3) := by decide +kernel
theorem dX7_abouts_121 : decode cX7_abouts 121 = .ok (.aload_n 0, 1) := by decide +kernel
theorem dX7_abouts_122 : decode cX7_abouts 122 = .ok (.getfield 44, 3) := by decide +kernel
theorem dX7_abouts_125 : decode cX7_abouts 125 = .ok (.iload_n 2, 1) := by decide +kernel
theorem dX7_abouts_126 : decode cX7_abouts 126 = .ok (.iconst 5, 1) := by decide +kernel
theorem dX7_abouts_127 : decode cX7_abouts 127 = .ok (.iadd, 1) := by decide +kernel
theorem dX7_abouts_128 : decode cX7_abouts 128 = .ok (.iaload, 1) := by decide +kernel
theorem dX7_abouts_129 : decode cX7_abouts 129 = .ok (.iload 7, 2) := by decide +kernel
theorem dX7_abouts_131 : decode cX7_abouts 131 = .ok (.if_icmp .ge 39, 3) := by decide +kernel
theorem dX7_abouts_134 : decode cX7_abouts 134 = .ok (.aload_n 0, 1) := by decide +kernel
theorem dX7_abouts_135 : decode cX7_abouts 135 = .ok (.aload_n 1, 1) := by decide +kernel
theorem dX7_abouts_136 : decode cX7_abouts 136 = .ok (.aload_n 0, 1) := by decide +kernel
theorem dX7_abouts_137 : decode cX7_abouts 137 = .ok (.getfield 44, 3) := by decide +kernel
theorem dX7_abouts_140 : decode cX7_abouts 140 = .ok (.iload_n 2, 1) := by decide +kernel
theorem dX7_abouts_141 : decode cX7_abouts 141 = .ok (.iconst 1, 1) := by decide +kernel
theorem dX7_abouts_142 : decode cX7_abouts 142 = .ok (.iadd, 1) := by decide +kernel
theorem dX7_abouts_143 : decode cX7_abouts 143 = .ok (.iaload, 1) := by decide +kernel
theorem dX7_abouts_144 : decode cX7_abouts 144 = .ok (.aload_n 0, 1) := by decide +kernel
theorem dX7_abouts_145 : decode cX7_abouts 145 = .ok (.getfield 44, 3) := by decide +kernel
theorem dX7_abouts_148 : decode cX7_abouts 148 = .ok (.iload_n 2, 1) := by decide +kernel
theorem dX7_abouts_149 : decode cX7_abouts 149 = .ok (.iconst 2, 1) := by decide +kernel
theorem dX7_abouts_150 : decode cX7_abouts 150 = .ok (.iadd, 1) := by decide +kernel
theorem dX7_abouts_151 : decode cX7_abouts 151 = .ok (.iaload, 1) := by decide +kernel
theorem dX7_abouts_152 : decode cX7_abouts 152 = .ok (.aload_n 0, 1) := by decide +kernel
theorem dX7_abouts_153 : decode cX7_abouts 153 = .ok (.getfield 44, 3) := by decide +kernel
theorem dX7_abouts_156 : decode cX7_abouts 156 = .ok (.iload_n 2, 1) := by decide +kernel
theorem dX7_abouts_157 : decode cX7_abouts 157 = .ok (.iconst 3, 1) := by decide +kernel
theorem dX7_abouts_158 : decode cX7_abouts 158 = .ok (.iadd, 1) := by decide +kernel
theorem dX7_abouts_159 : decode cX7_abouts 159 = .ok (.iaload, 1) := by decide +kernel
theorem dX7_abouts_160 : decode cX7_abouts 160 = .ok (.iload 4, 2) := by decide +kernel
theorem dX7_abouts_162 : decode cX7_abouts 162 = .ok (.iconst 1, 1) := by decide +kernel
theorem dX7_abouts_163 : decode cX7_abouts 163 = .ok (.iadd, 1) := by decide +kernel
theorem dX7_abouts_164 : decode cX7_abouts 164 = .ok (.invokevirtual 200, 3) := by decide +kernel
theorem dX7_abouts_167 : decode cX7_abouts 167 = .ok (.goto 68, 3) := by decide +kernel
theorem dX7_abouts_170 : decode cX7_abouts 170 = .ok (.iload 5, 2) := by decide +kernel
theorem dX7_abouts_172 : decode cX7_abouts 172 = .ok (.iconst 4, 1) := by decide +kernel
theorem dX7_abouts_173 : decode cX7_abouts 173 = .ok (.if_icmp .ne 35, 3) := by decide +kernel
theorem dX7_abouts_176 : decode cX7_abouts 176 = .ok (.aload_n 0, 1) := by decide +kernel
theorem dX7_abouts_177 : decode cX7_abouts 177 = .ok (.iload 6, 2) := by decide +kernel
theorem dX7_abouts_179 : decode cX7_abouts 179 = .ok (.bipush 100, 2) := by decide +kernel
theorem dX7_abouts_181 : decode cX7_abouts 181 = .ok (.iadd, 1) := by decide +kernel
theorem dX7_abouts_182 : decode cX7_abouts 182 = .ok (.invokevirtual 210, 3) := by decide +kernel
theorem dX7_abouts_185 : decode cX7_abouts 185 = .ok (.aload_n 0, 1) := by decide +kernel
theorem dX7_abouts_186 : decode cX7_abouts 186 = .ok (.iconst 0, 1) := by decide +kernel
theorem dX7_abouts_187 : decode cX7_abouts 187 = .ok (.iload_n 3, 1) := by decide +kernel
theorem dX7_abouts_188 : decode cX7_abouts 188 = .ok (.ifCond .eq 12, 3) := by decide +kernel
theorem dX7_abouts_191 : decode cX7_abouts 191 = .ok (.aload_n 0, 1) := by decide +kernel
theorem dX7_abouts_192 : decode cX7_abouts 192 = .ok (.getfield 207, 3) := by decide +kernel
theorem dX7_abouts_195 : decode cX7_abouts 195 = .ok (.iconst 1, 1) := by decide +kernel
theorem dX7_abouts_196 : decode cX7_abouts 196 = .ok (.iadd, 1) := by decide +kernel
theorem dX7_abouts_197 : decode cX7_abouts 197 = .ok (.goto 5, 3) := by decide +kernel
theorem dX7_abouts_200 : decode cX7_abouts 200 = .ok (.iload 6, 2) := by decide +kernel
theorem dX7_abouts_202 : decode cX7_abouts 202 = .ok (.invokevirtual 214, 3) := by decide +kernel
theorem dX7_abouts_205 : decode cX7_abouts 205 = .ok (.goto 30, 3) := by decide +kernel
theorem dX7_abouts_208 : decode cX7_abouts 208 = .ok (.iload 5, 2) := by decide +kernel
theorem dX7_abouts_210 : decode cX7_abouts 210 = .ok (.iconst 1, 1) := by decide +kernel
theorem dX7_abouts_211 : decode cX7_abouts 211 = .ok (.if_icmp .eq 9, 3) := by decide +kernel
theorem dX7_abouts_214 : decode cX7_abouts 214 = .ok (.iload 5, 2) := by decide +kernel
theorem dX7_abouts_216 : decode cX7_abouts 216 = .ok (.iconst 2, 1) := by decide +kernel
theorem dX7_abouts_217 : decode cX7_abouts 217 = .ok (.if_icmp .ne 9, 3) := by decide +kernel
theorem dX7_abouts_220 : decode cX7_abouts 220 = .ok (.aload_n 0, 1) := by decide +kernel
theorem dX7_abouts_221 : decode cX7_abouts 221 = .ok (.iload 6, 2) := by decide +kernel
theorem dX7_abouts_223 : decode cX7_abouts 223 = .ok (.invokevirtual 210, 3) := by decide +kernel
theorem dX7_abouts_226 : decode cX7_abouts 226 = .ok (.aload_n 0, 1) := by decide +kernel
theorem dX7_abouts_227 : decode cX7_abouts 227 = .ok (.iconst 0, 1) := by decide +kernel
theorem dX7_abouts_228 : decode cX7_abouts 228 = .ok (.aload_n 0, 1) := by decide +kernel
theorem dX7_abouts_229 : decode cX7_abouts 229 = .ok (.getfield 207, 3) := by decide +kernel
theorem dX7_abouts_232 : decode cX7_abouts 232 = .ok (.invokevirtual 214, 3) := by decide +kernel
theorem dX7_abouts_235 : decode cX7_abouts 235 = .ok (.return_, 1) := by decide +kernel
theorem dX7_bodies_0 : decode cX7_bodies 0 = .ok (.iload_n 3, 1) := by decide +kernel
theorem dX7_bodies_1 : decode cX7_bodies 1 = .ok (.ifCond .eq 20, 3) := by decide +kernel
theorem dX7_bodies_4 : decode cX7_bodies 4 = .ok (.aload_n 0, 1) := by decide +kernel
theorem dX7_bodies_5 : decode cX7_bodies 5 = .ok (.getfield 204, 3) := by decide +kernel
theorem dX7_bodies_8 : decode cX7_bodies 8 = .ok (.ifCond .le 13, 3) := by decide +kernel
theorem dX7_bodies_11 : decode cX7_bodies 11 = .ok (.aload_n 0, 1) := by decide +kernel
theorem dX7_bodies_12 : decode cX7_bodies 12 = .ok (.aload_n 0, 1) := by decide +kernel
theorem dX7_bodies_13 : decode cX7_bodies 13 = .ok (.getfield 204, 3) := by decide +kernel
theorem dX7_bodies_16 : decode cX7_bodies 16 = .ok (.iconst 0, 1) := by decide +kernel
theorem dX7_bodies_17 : decode cX7_bodies 17 = .ok (.invokevirtual 214, 3) := by decide +kernel
theorem dX7_bodies_20 : decode cX7_bodies 20 = .ok (.return_, 1) := by decide +kernel
theorem dX7_bodies_21 : decode cX7_bodies 21 = .ok (.aload_n 0, 1) := by decide +kernel
theorem dX7_bodies_22 : decode cX7_bodies 22 = .ok (.getfield 44, 3) := by decide +kernel
theorem dX7_bodies_25 : decode cX7_bodies 25 = .ok (.iload_n 2, 1) := by decide +kernel
theorem dX7_bodies_26 : decode cX7_bodies 26 = .ok (.bipush 6, 2) := by decide +kernel
theorem dX7_bodies_28 : decode cX7_bodies 28 = .ok (.iadd, 1) := by decide +kernel
theorem dX7_bodies_29 : decode cX7_bodies 29 = .ok (.dup2, 1) := by decide +kernel
theorem dX7_bodies_30 : decode cX7_bodies 30 = .ok (.iaload, 1) := by decide +kernel
theorem dX7_bodies_31 : decode cX7_bodies 31 = .ok (.iload_n 3, 1) := by decide +kernel
theorem dX7_bodies_32 : decode cX7_bodies 32 = .ok (.ifCond .eq 10, 3) := by decide +kernel
theorem dX7_bodies_35 : decode cX7_bodies 35 = .ok (.aload_n 0, 1) := by decide +kernel
theorem dX7_bodies_36 : decode cX7_bodies 36 = .ok (.getfield 207, 3) := by decide +kernel
theorem dX7_bodies_39 : decode cX7_bodies 39 = .ok (.goto 4, 3) := by decide +kernel
theorem dX7_bodies_42 : decode cX7_bodies 42 = .ok (.iconst 0, 1) := by decide +kernel
theorem dX7_bodies_43 : decode cX7_bodies 43 = .ok (.iadd, 1) := by decide +kernel
theorem dX7_bodies_44 : decode cX7_bodies 44 = .ok (.iastore, 1) := by decide +kernel
theorem dX7_bodies_45 : decode cX7_bodies 45 = .ok (.aload_n 0, 1) := by decide +kernel
theorem dX7_bodies_46 : decode cX7_bodies 46 = .ok (.getfield 44, 3) := by decide +kernel
theorem dX7_bodies_49 : decode cX7_bodies 49 = .ok (.iload_n 2, 1) := by decide +kernel
theorem dX7_bodies_50 : decode cX7_bodies 50 = .ok (.iconst 4, 1) := by decide +kernel
theorem dX7_bodies_51 : decode cX7_bodies 51 = .ok (.iadd, 1) := by decide +kernel
theorem dX7_bodies_52 : decode cX7_bodies 52 = .ok (.iaload, 1) := by decide +kernel
theorem dX7_bodies_53 : decode cX7_bodies 53 = .ok (.istore 4, 2) := by decide +kernel
theorem dX7_bodies_55 : decode cX7_bodies 55 = .ok (.iconst 2, 1) := by decide +kernel
theorem dX7_bodies_56 : decode cX7_bodies 56 = .ok (.bipush 10, 2) := by decide +kernel
theorem dX7_bodies_58 : decode cX7_bodies 58 = .ok (.aload_n 0, 1) := by decide +kernel
theorem dX7_bodies_59 : decode cX7_bodies 59 = .ok (.getfield 44, 3) := by decide +kernel
theorem dX7_bodies_62 : decode cX7_bodies 62 = .ok (.iload_n 2, 1) := by decide +kernel
theorem dX7_bodies_63 : decode cX7_bodies 63 = .ok (.iconst 1, 1) := by decide +kernel
theorem dX7_bodies_64 : decode cX7_bodies 64 = .ok (.iadd, 1) := by decide +kernel
theorem dX7_bodies_65 : decode cX7_bodies 65 = .ok (.iaload, 1) := by decide +kernel
theorem dX7_bodies_66 : decode cX7_bodies 66 = .ok (.imul, 1) := by decide +kernel
theorem dX7_bodies_67 : decode cX7_bodies 67 = .ok (.iadd, 1) := by decide +kernel
theorem dX7_bodies_68 : decode cX7_bodies 68 = .ok (.istore 5, 2) := by decide +kernel
theorem dX7_bodies_70 : decode cX7_bodies 70 = .ok (.aload_n 0, 1) := by decide +kernel
theorem dX7_bodies_71 : decode cX7_bodies 71 = .ok (.getfield 44, 3) := by decide +kernel
theorem dX7_bodies_74 : decode cX7_bodies 74 = .ok (.iload_n 2, 1) := by decide +kernel
theorem dX7_bodies_75 : decode cX7_bodies 75 = .ok (.iconst 4, 1) := by decide +kernel
theorem dX7_bodies_76 : decode cX7_bodies 76 = .ok (.iadd, 1) := by decide +kernel
theorem dX7_bodies_77 : decode cX7_bodies 77 = .ok (.dup2, 1) := by decide +kernel
theorem dX7_bodies_78 : decode cX7_bodies 78 = .ok (.iaload, 1) := by decide +kernel
theorem dX7_bodies_79 : decode cX7_bodies 79 = .ok (.iconst 1, 1) := by decide +kernel
theorem dX7_bodies_80 : decode cX7_bodies 80 = .ok (.iadd, 1) := by decide +kernel
theorem dX7_bodies_81 : decode cX7_bodies 81 = .ok (.iastore, 1) := by decide +kernel
theorem dX7_bodies_82 : decode cX7_bodies 82 = .ok (.iload 4, 2) := by decide +kernel
theorem dX7_bodies_84 : decode cX7_bodies 84 = .ok (.aload_n 1, 1) := by decide +kernel
theorem dX7_bodies_85 : decode cX7_bodies 85 = .ok (.iload 5, 2) := by decide +kernel
theorem dX7_bodies_87 : decode cX7_bodies 87 = .ok (.iconst 1, 1) := by decide +kernel
theorem dX7_bodies_88 : decode cX7_bodies 88 = .ok (.iadd, 1) := by decide +kernel
theorem dX7_bodies_89 : decode cX7_bodies 89 = .ok (.iaload, 1) := by decide +kernel
theorem dX7_bodies_90 : decode cX7_bodies 90 = .ok (.if_icmp .lt 20, 3) := by decide +kernel
theorem dX7_bodies_93 : decode cX7_bodies 93 = .ok (.aload_n 0, 1) := by decide +kernel
theorem dX7_bodies_94 : decode cX7_bodies 94 = .ok (.iconst 0, 1) := by decide +kernel
theorem dX7_bodies_95 : decode cX7_bodies 95 = .ok (.aload_n 0, 1) := by decide +kernel
theorem dX7_bodies_96 : decode cX7_bodies 96 = .ok (.getfield 44, 3) := by decide +kernel
theorem dX7_bodies_99 : decode cX7_bodies 99 = .ok (.iload_n 2, 1) := by decide +kernel
theorem dX7_bodies_100 : decode cX7_bodies 100 = .ok (.bipush 6, 2) := by decide +kernel
theorem dX7_bodies_102 : decode cX7_bodies 102 = .ok (.iadd, 1) := by decide +kernel
theorem dX7_bodies_103 : decode cX7_bodies 103 = .ok (.iaload, 1) := by decide +kernel
theorem dX7_bodies_104 : decode cX7_bodies 104 = .ok (.invokevirtual 214, 3) := by decide +kernel
theorem dX7_bodies_107 : decode cX7_bodies 107 = .ok (.goto 112, 3) := by decide +kernel
theorem dX7_bodies_110 : decode cX7_bodies 110 = .ok (.aload_n 1, 1) := by decide +kernel
theorem dX7_bodies_111 : decode cX7_bodies 111 = .ok (.iload 5, 2) := by decide +kernel
theorem dX7_bodies_113 : decode cX7_bodies 113 = .ok (.iconst 2, 1) := by decide +kernel
theorem dX7_bodies_114 : decode cX7_bodies 114 = .ok (.iadd, 1) := by decide +kernel
theorem dX7_bodies_115 : decode cX7_bodies 115 = .ok (.iconst 2, 1) := by decide +kernel
theorem dX7_bodies_116 : decode cX7_bodies 116 = .ok (.iload 4, 2) := by decide +kernel
theorem dX7_bodies_118 : decode cX7_bodies 118 = .ok (.imul, 1) := by decide +kernel
theorem dX7_bodies_119 : decode cX7_bodies 119 = .ok (.iadd, 1) := by decide +kernel
theorem dX7_bodies_120 : decode cX7_bodies 120 = .ok (.iaload, 1) := by decide +kernel
theorem dX7_bodies_121 : decode cX7_bodies 121 = .ok (.ifCond .ne 23, 3) := by decide +kernel
end
section
theorem dX7_bodies_124 : decode cX7_bodies 124 = .ok (.aload_n 0, 1) := by decide +kernel
theorem dX7_bodies_125 : decode cX7_bodies 125 = .ok (.aload_n 1, 1) := by decide +kernel
theorem dX7_bodies_126 : decode cX7_bodies 126 = .ok (.iload 5, 2) := by decide +kernel
theorem dX7_bodies_128 : decode cX7_bodies 128 = .ok (.iconst 2, 1) := by decide +kernel
theorem dX7_bodies_129 : decode cX7_bodies 129 = .ok (.iadd, 1) := by decide +kernel
theorem dX7_bodies_130 : decode cX7_bodies 130 = .ok (.iconst 2, 1) := by decide +kernel
theorem dX7_bodies_131 : decode cX7_bodies 131 = .ok (.iload 4, 2) := by decide +kernel
theorem dX7_bodies_133 : decode cX7_bodies 133 = .ok (.imul, 1) := by decide +kernel
theorem dX7_bodies_134 : decode cX7_bodies 134 = .ok (.iadd, 1) := by decide +kernel
theorem dX7_bodies_135 : decode cX7_bodies 135 = .ok (.iconst 1, 1) := by decide +kernel
theorem dX7_bodies_136 : decode cX7_bodies 136 = .ok (.iadd, 1) := by decide +kernel
theorem dX7_bodies_137 : decode cX7_bodies 137 = .ok (.iaload, 1) := by decide +kernel
theorem dX7_bodies_138 : decode cX7_bodies 138 = .ok (.invokevirtual 210, 3) := by decide +kernel
theorem dX7_bodies_141 : decode cX7_bodies 141 = .ok (.goto 78, 3) := by decide +kernel
theorem dX7_bodies_144 : decode cX7_bodies 144 = .ok (.aload_n 1, 1) := by decide +kernel
theorem dX7_bodies_145 : decode cX7_bodies 145 = .ok (.iload 5, 2) := by decide +kernel
theorem dX7_bodies_147 : decode cX7_bodies 147 = .ok (.iconst 2, 1) := by decide +kernel
theorem dX7_bodies_148 : decode cX7_bodies 148 = .ok (.iadd, 1) := by decide +kernel
theorem dX7_bodies_149 : decode cX7_bodies 149 = .ok (.iconst 2, 1) := by decide +kernel
theorem dX7_bodies_150 : decode cX7_bodies 150 = .ok (.iload 4, 2) := by decide +kernel
theorem dX7_bodies_152 : decode cX7_bodies 152 = .ok (.imul, 1) := by decide +kernel
theorem dX7_bodies_153 : decode cX7_bodies 153 = .ok (.iadd, 1) := by decide +kernel
theorem dX7_bodies_154 : decode cX7_bodies 154 = .ok (.iaload, 1) := by decide +kernel
theorem dX7_bodies_155 : decode cX7_bodies 155 = .ok (.iconst 2, 1) := by decide +kernel
theorem dX7_bodies_156 : decode cX7_bodies 156 = .ok (.if_icmp .ne 24, 3) := by decide +kernel
theorem dX7_bodies_159 : decode cX7_bodies 159 = .ok (.aload_n 0, 1) := by decide +kernel
theorem dX7_bodies_160 : decode cX7_bodies 160 = .ok (.aload_n 1, 1) := by decide +kernel
theorem dX7_bodies_161 : decode cX7_bodies 161 = .ok (.iload 5, 2) := by decide +kernel
theorem dX7_bodies_163 : decode cX7_bodies 163 = .ok (.iconst 2, 1) := by decide +kernel
theorem dX7_bodies_164 : decode cX7_bodies 164 = .ok (.iadd, 1) := by decide +kernel
theorem dX7_bodies_165 : decode cX7_bodies 165 = .ok (.iconst 2, 1) := by decide +kernel
theorem dX7_bodies_166 : decode cX7_bodies 166 = .ok (.iload 4, 2) := by decide +kernel
theorem dX7_bodies_168 : decode cX7_bodies 168 = .ok (.imul, 1) := by decide +kernel
theorem dX7_bodies_169 : decode cX7_bodies 169 = .ok (.iadd, 1) := by decide +kernel
theorem dX7_bodies_170 : decode cX7_bodies 170 = .ok (.iconst 1, 1) := by decide +kernel
theorem dX7_bodies_171 : decode cX7_bodies 171 = .ok (.iadd, 1) := by decide +kernel
theorem dX7_bodies_172 : decode cX7_bodies 172 = .ok (.iaload, 1) := by decide +kernel
theorem dX7_bodies_173 : decode cX7_bodies 173 = .ok (.iconst 0, 1) := by decide +kernel
theorem dX7_bodies_174 : decode cX7_bodies 174 = .ok (.invokevirtual 214, 3) := by decide +kernel
theorem dX7_bodies_177 : decode cX7_bodies 177 = .ok (.goto 42, 3) := by decide +kernel
theorem dX7_bodies_180 : decode cX7_bodies 180 = .ok (.aload_n 0, 1) := by decide +kernel
theorem dX7_bodies_181 : decode cX7_bodies 181 = .ok (.getfield 44, 3) := by decide +kernel
theorem dX7_bodies_184 : decode cX7_bodies 184 = .ok (.iload_n 2, 1) := by decide +kernel
theorem dX7_bodies_185 : decode cX7_bodies 185 = .ok (.iconst 2, 1) := by decide +kernel
theorem dX7_bodies_186 : decode cX7_bodies 186 = .ok (.iadd, 1) := by decide +kernel
theorem dX7_bodies_187 : decode cX7_bodies 187 = .ok (.iaload, 1) := by decide +kernel
theorem dX7_bodies_188 : decode cX7_bodies 188 = .ok (.ifCond .le 31, 3) := by decide +kernel
theorem dX7_bodies_191 : decode cX7_bodies 191 = .ok (.aload_n 0, 1) := by decide +kernel
theorem dX7_bodies_192 : decode cX7_bodies 192 = .ok (.aload_n 1, 1) := by decide +kernel
theorem dX7_bodies_193 : decode cX7_bodies 193 = .ok (.aload_n 1, 1) := by decide +kernel
theorem dX7_bodies_194 : decode cX7_bodies 194 = .ok (.iload 5, 2) := by decide +kernel
theorem dX7_bodies_196 : decode cX7_bodies 196 = .ok (.iconst 2, 1) := by decide +kernel
theorem dX7_bodies_197 : decode cX7_bodies 197 = .ok (.iadd, 1) := by decide +kernel
theorem dX7_bodies_198 : decode cX7_bodies 198 = .ok (.iconst 2, 1) := by decide +kernel
theorem dX7_bodies_199 : decode cX7_bodies 199 = .ok (.iload 4, 2) := by decide +kernel
theorem dX7_bodies_201 : decode cX7_bodies 201 = .ok (.imul, 1) := by decide +kernel
theorem dX7_bodies_202 : decode cX7_bodies 202 = .ok (.iadd, 1) := by decide +kernel
theorem dX7_bodies_203 : decode cX7_bodies 203 = .ok (.iconst 1, 1) := by decide +kernel
theorem dX7_bodies_204 : decode cX7_bodies 204 = .ok (.iadd, 1) := by decide +kernel
theorem dX7_bodies_205 : decode cX7_bodies 205 = .ok (.iaload, 1) := by decide +kernel
theorem dX7_bodies_206 : decode cX7_bodies 206 = .ok (.aload_n 0, 1) := by decide +kernel
theorem dX7_bodies_207 : decode cX7_bodies 207 = .ok (.getfield 44, 3) := by decide +kernel
theorem dX7_bodies_210 : decode cX7_bodies 210 = .ok (.iload_n 2, 1) := by decide +kernel
theorem dX7_bodies_211 : decode cX7_bodies 211 = .ok (.iconst 2, 1) := by decide +kernel
theorem dX7_bodies_212 : decode cX7_bodies 212 = .ok (.iadd, 1) := by decide +kernel
theorem dX7_bodies_213 : decode cX7_bodies 213 = .ok (.iaload, 1) := by decide +kernel
theorem dX7_bodies_214 : decode cX7_bodies 214 = .ok (.iconst 1, 1) := by decide +kernel
theorem dX7_bodies_215 : decode cX7_bodies 215 = .ok (.isub, 1) := by decide +kernel
theorem dX7_bodies_216 : decode cX7_bodies 216 = .ok (.invokevirtual 218, 3) := by decide +kernel
theorem dX7_bodies_219 : decode cX7_bodies 219 = .ok (.return_, 1) := by decide +kernel
theorem dX7_runs_0 : decode cX7_runs 0 = .ok (.aload_n 0, 1) := by decide +kernel
theorem dX7_runs_1 : decode cX7_runs 1 = .ok (.iconst 0, 1) := by decide +kernel
theorem dX7_runs_2 : decode cX7_runs 2 = .ok (.putfield 183, 3) := by decide +kernel
theorem dX7_runs_5 : decode cX7_runs 5 = .ok (.aload_n 0, 1) := by decide +kernel
theorem dX7_runs_6 : decode cX7_runs 6 = .ok (.iconst 0, 1) := by decide +kernel
theorem dX7_runs_7 : decode cX7_runs 7 = .ok (.putfield 176, 3) := by decide +kernel
theorem dX7_runs_10 : decode cX7_runs 10 = .ok (.aload_n 0, 1) := by decide +kernel
theorem dX7_runs_11 : decode cX7_runs 11 = .ok (.iconst 0, 1) := by decide +kernel
theorem dX7_runs_12 : decode cX7_runs 12 = .ok (.putfield 204, 3) := by decide +kernel
theorem dX7_runs_15 : decode cX7_runs 15 = .ok (.aload_n 0, 1) := by decide +kernel
theorem dX7_runs_16 : decode cX7_runs 16 = .ok (.iconst 0, 1) := by decide +kernel
theorem dX7_runs_17 : decode cX7_runs 17 = .ok (.putfield 207, 3) := by decide +kernel
theorem dX7_runs_20 : decode cX7_runs 20 = .ok (.aload_n 0, 1) := by decide +kernel
theorem dX7_runs_21 : decode cX7_runs 21 = .ok (.iconst 0, 1) := by decide +kernel
theorem dX7_runs_22 : decode cX7_runs 22 = .ok (.putfield 190, 3) := by decide +kernel
theorem dX7_runs_25 : decode cX7_runs 25 = .ok (.aload_n 0, 1) := by decide +kernel
theorem dX7_runs_26 : decode cX7_runs 26 = .ok (.iconst 0, 1) := by decide +kernel
theorem dX7_runs_27 : decode cX7_runs 27 = .ok (.putfield 193, 3) := by decide +kernel
theorem dX7_runs_30 : decode cX7_runs 30 = .ok (.aload_n 0, 1) := by decide +kernel
theorem dX7_runs_31 : decode cX7_runs 31 = .ok (.iconst 0, 1) := by decide +kernel
theorem dX7_runs_32 : decode cX7_runs 32 = .ok (.putfield 179, 3) := by decide +kernel
theorem dX7_runs_35 : decode cX7_runs 35 = .ok (.iconst 0, 1) := by decide +kernel
theorem dX7_runs_36 : decode cX7_runs 36 = .ok (.istore 4, 2) := by decide +kernel
theorem dX7_runs_38 : decode cX7_runs 38 = .ok (.iload 4, 2) := by decide +kernel
theorem dX7_runs_40 : decode cX7_runs 40 = .ok (.bipush 6, 2) := by decide +kernel
theorem dX7_runs_42 : decode cX7_runs 42 = .ok (.if_icmp .ge 17, 3) := by decide +kernel
theorem dX7_runs_45 : decode cX7_runs 45 = .ok (.aload_n 0, 1) := by decide +kernel
theorem dX7_runs_46 : decode cX7_runs 46 = .ok (.getfield 47, 3) := by decide +kernel
theorem dX7_runs_49 : decode cX7_runs 49 = .ok (.iload 4, 2) := by decide +kernel
theorem dX7_runs_51 : decode cX7_runs 51 = .ok (.iconst 0, 1) := by decide +kernel
theorem dX7_runs_52 : decode cX7_runs 52 = .ok (.iastore, 1) := by decide +kernel
theorem dX7_runs_53 : decode cX7_runs 53 = .ok (.iinc 4 1, 3) := by decide +kernel
theorem dX7_runs_56 : decode cX7_runs 56 = .ok (.goto (-18), 3) := by decide +kernel
theorem dX7_runs_59 : decode cX7_runs 59 = .ok (.aload_n 0, 1) := by decide +kernel
theorem dX7_runs_60 : decode cX7_runs 60 = .ok (.aload_n 1, 1) := by decide +kernel
theorem dX7_runs_61 : decode cX7_runs 61 = .ok (.iload_n 2, 1) := by decide +kernel
theorem dX7_runs_62 : decode cX7_runs 62 = .ok (.iload_n 3, 1) := by decide +kernel
theorem dX7_runs_63 : decode cX7_runs 63 = .ok (.invokevirtual 218, 3) := by decide +kernel
theorem dX7_runs_66 : decode cX7_runs 66 = .ok (.aload_n 0, 1) := by decide +kernel
theorem dX7_runs_67 : decode cX7_runs 67 = .ok (.getfield 183, 3) := by decide +kernel
theorem dX7_runs_70 : decode cX7_runs 70 = .ok (.istore 4, 2) := by decide +kernel
theorem dX7_runs_72 : decode cX7_runs 72 = .ok (.aload_n 0, 1) := by decide +kernel
theorem dX7_runs_73 : decode cX7_runs 73 = .ok (.getfield 183, 3) := by decide +kernel
theorem dX7_runs_76 : decode cX7_runs 76 = .ok (.ifCond .le 125, 3) := by decide +kernel
theorem dX7_runs_79 : decode cX7_runs 79 = .ok (.aload_n 0, 1) := by decide +kernel
theorem dX7_runs_80 : decode cX7_runs 80 = .ok (.getfield 179, 3) := by decide +kernel
theorem dX7_runs_83 : decode cX7_runs 83 = .ok (.ifCond .ne 118, 3) := by decide +kernel
theorem dX7_runs_86 : decode cX7_runs 86 = .ok (.aload_n 0, 1) := by decide +kernel
theorem dX7_runs_87 : decode cX7_runs 87 = .ok (.getfield 183, 3) := by decide +kernel
theorem dX7_runs_90 : decode cX7_runs 90 = .ok (.iload 4, 2) := by decide +kernel
theorem dX7_runs_92 : decode cX7_runs 92 = .ok (.if_icmp .ge 7, 3) := by decide +kernel
theorem dX7_runs_95 : decode cX7_runs 95 = .ok (.iconst 1, 1) := by decide +kernel
theorem dX7_runs_96 : decode cX7_runs 96 = .ok (.goto 4, 3) := by decide +kernel
theorem dX7_runs_99 : decode cX7_runs 99 = .ok (.iconst 0, 1) := by decide +kernel
theorem dX7_runs_100 : decode cX7_runs 100 = .ok (.istore 5, 2) := by decide +kernel
theorem dX7_runs_102 : decode cX7_runs 102 = .ok (.aload_n 0, 1) := by decide +kernel
theorem dX7_runs_103 : decode cX7_runs 103 = .ok (.getfield 183, 3) := by decide +kernel
theorem dX7_runs_106 : decode cX7_runs 106 = .ok (.istore 4, 2) := by decide +kernel
theorem dX7_runs_108 : decode cX7_runs 108 = .ok (.bipush 7, 2) := by decide +kernel
theorem dX7_runs_110 : decode cX7_runs 110 = .ok (.aload_n 0, 1) := by decide +kernel
theorem dX7_runs_111 : decode cX7_runs 111 = .ok (.getfield 183, 3) := by decide +kernel
theorem dX7_runs_114 : decode cX7_runs 114 = .ok (.iconst 1, 1) := by decide +kernel
theorem dX7_runs_115 : decode cX7_runs 115 = .ok (.isub, 1) := by decide +kernel
theorem dX7_runs_116 : decode cX7_runs 116 = .ok (.imul, 1) := by decide +kernel
theorem dX7_runs_117 : decode cX7_runs 117 = .ok (.istore 6, 2) := by decide +kernel
theorem dX7_runs_119 : decode cX7_runs 119 = .ok (.aload_n 0, 1) := by decide +kernel
theorem dX7_runs_120 : decode cX7_runs 120 = .ok (.getfield 44, 3) := by decide +kernel
theorem dX7_runs_123 : decode cX7_runs 123 = .ok (.iload 6, 2) := by decide +kernel
theorem dX7_runs_125 : decode cX7_runs 125 = .ok (.iconst 0, 1) := by decide +kernel
theorem dX7_runs_126 : decode cX7_runs 126 = .ok (.iadd, 1) := by decide +kernel
theorem dX7_runs_127 : decode cX7_runs 127 = .ok (.iaload, 1) := by decide +kernel
theorem dX7_runs_128 : decode cX7_runs 128 = .ok (.ifCond .ne 36, 3) := by decide +kernel
theorem dX7_runs_131 : decode cX7_runs 131 = .ok (.aload_n 0, 1) := by decide +kernel
theorem dX7_runs_132 : decode cX7_runs 132 = .ok (.getfield 47, 3) := by decide +kernel
theorem dX7_runs_135 : decode cX7_runs 135 = .ok (.aload_n 0, 1) := by decide +kernel
theorem dX7_runs_136 : decode cX7_runs 136 = .ok (.getfield 44, 3) := by decide +kernel
theorem dX7_runs_139 : decode cX7_runs 139 = .ok (.iload 6, 2) := by decide +kernel
theorem dX7_runs_141 : decode cX7_runs 141 = .ok (.iconst 1, 1) := by decide +kernel
theorem dX7_runs_142 : decode cX7_runs 142 = .ok (.iadd, 1) := by decide +kernel
theorem dX7_runs_143 : decode cX7_runs 143 = .ok (.iaload, 1) := by decide +kernel
theorem dX7_runs_144 : decode cX7_runs 144 = .ok (.dup2, 1) := by decide +kernel
theorem dX7_runs_145 : decode cX7_runs 145 = .ok (.iaload, 1) := by decide +kernel
theorem dX7_runs_146 : decode cX7_runs 146 = .ok (.iconst 1, 1) := by decide +kernel
theorem dX7_runs_147 : decode cX7_runs 147 = .ok (.isub, 1) := by decide +kernel
theorem dX7_runs_148 : decode cX7_runs 148 = .ok (.iastore, 1) := by decide +kernel
theorem dX7_runs_149 : decode cX7_runs 149 = .ok (.aload_n 0, 1) := by decide +kernel
theorem dX7_runs_150 : decode cX7_runs 150 = .ok (.aload_n 0, 1) := by decide +kernel
theorem dX7_runs_151 : decode cX7_runs 151 = .ok (.getfield 204, 3) := by decide +kernel
theorem dX7_runs_154 : decode cX7_runs 154 = .ok (.aload_n 0, 1) := by decide +kernel
theorem dX7_runs_155 : decode cX7_runs 155 = .ok (.getfield 207, 3) := by decide +kernel
theorem dX7_runs_158 : decode cX7_runs 158 = .ok (.invokevirtual 214, 3) := by decide +kernel
theorem dX7_runs_161 : decode cX7_runs 161 = .ok (.goto 37, 3) := by decide +kernel
theorem dX7_runs_164 : decode cX7_runs 164 = .ok (.aload_n 0, 1) := by decide +kernel
theorem dX7_runs_165 : decode cX7_runs 165 = .ok (.getfield 44, 3) := by decide +kernel
theorem dX7_runs_168 : decode cX7_runs 168 = .ok (.iload 6, 2) := by decide +kernel
theorem dX7_runs_170 : decode cX7_runs 170 = .ok (.iconst 0, 1) := by decide +kernel
theorem dX7_runs_171 : decode cX7_runs 171 = .ok (.iadd, 1) := by decide +kernel
theorem dX7_runs_172 : decode cX7_runs 172 = .ok (.iaload, 1) := by decide +kernel
theorem dX7_runs_173 : decode cX7_runs 173 = .ok (.iconst 1, 1) := by decide +kernel
theorem dX7_runs_174 : decode cX7_runs 174 = .ok (.if_icmp .ne 15, 3) := by decide +kernel
theorem dX7_runs_177 : decode cX7_runs 177 = .ok (.aload_n 0, 1) := by decide +kernel
theorem dX7_runs_178 : decode cX7_runs 178 = .ok (.aload_n 1, 1) := by decide +kernel
theorem dX7_runs_179 : decode cX7_runs 179 = .ok (.iload 6, 2) := by decide +kernel
theorem dX7_runs_181 : decode cX7_runs 181 = .ok (.iload 5, 2) := by decide +kernel
theorem dX7_runs_183 : decode cX7_runs 183 = .ok (.invokevirtual 222, 3) := by decide +kernel
theorem dX7_runs_186 : decode cX7_runs 186 = .ok (.goto 12, 3) := by decide +kernel
theorem dX7_runs_189 : decode cX7_runs 189 = .ok (.aload_n 0, 1) := by decide +kernel
theorem dX7_runs_190 : decode cX7_runs 190 = .ok (.aload_n 1, 1) := by decide +kernel
theorem dX7_runs_191 : decode cX7_runs 191 = .ok (.iload 6, 2) := by decide +kernel
theorem dX7_runs_193 : decode cX7_runs 193 = .ok (.iload 5, 2) := by decide +kernel
theorem dX7_runs_195 : decode cX7_runs 195 = .ok (.invokevirtual 226, 3) := by decide +kernel
theorem dX7_runs_198 : decode cX7_runs 198 = .ok (.goto (-126), 3) := by decide +kernel
theorem dX7_runs_201 : decode cX7_runs 201 = .ok (.return_, 1) := by decide +kernel
theorem dX7_notes_0 : decode cX7_notes 0 = .ok (.aload_n 0, 1) := by decide +kernel
theorem dX7_notes_1 : decode cX7_notes 1 = .ok (.getfield 155, 3) := by decide +kernel
theorem dX7_notes_4 : decode cX7_notes 4 = .ok (.bipush 16, 2) := by decide +kernel
theorem dX7_notes_6 : decode cX7_notes 6 = .ok (.if_icmp .ne 43, 3) := by decide +kernel
theorem dX7_notes_9 : decode cX7_notes 9 = .ok (.iconst 0, 1) := by decide +kernel
theorem dX7_notes_10 : decode cX7_notes 10 = .ok (.istore_n 1, 1) := by decide +kernel
theorem dX7_notes_11 : decode cX7_notes 11 = .ok (.iload_n 1, 1) := by decide +kernel
theorem dX7_notes_12 : decode cX7_notes 12 = .ok (.sipush 1380, 3) := by decide +kernel
theorem dX7_notes_15 : decode cX7_notes 15 = .ok (.if_icmp .ge 24, 3) := by decide +kernel
theorem dX7_notes_18 : decode cX7_notes 18 = .ok (.aload_n 0, 1) := by decide +kernel
theorem dX7_notes_19 : decode cX7_notes 19 = .ok (.getfield 34, 3) := by decide +kernel
theorem dX7_notes_22 : decode cX7_notes 22 = .ok (.iload_n 1, 1) := by decide +kernel
theorem dX7_notes_23 : decode cX7_notes 23 = .ok (.aload_n 0, 1) := by decide +kernel
theorem dX7_notes_24 : decode cX7_notes 24 = .ok (.getfield 34, 3) := by decide +kernel
theorem dX7_notes_27 : decode cX7_notes 27 = .ok (.iload_n 1, 1) := by decide +kernel
theorem dX7_notes_28 : decode cX7_notes 28 = .ok (.bipush 92, 2) := by decide +kernel
theorem dX7_notes_30 : decode cX7_notes 30 = .ok (.iadd, 1) := by decide +kernel
theorem dX7_notes_31 : decode cX7_notes 31 = .ok (.iaload, 1) := by decide +kernel
theorem dX7_notes_32 : decode cX7_notes 32 = .ok (.iastore, 1) := by decide +kernel
theorem dX7_notes_33 : decode cX7_notes 33 = .ok (.iinc 1 1, 3) := by decide +kernel
theorem dX7_notes_36 : decode cX7_notes 36 = .ok (.goto (-25), 3) := by decide +kernel
theorem dX7_notes_39 : decode cX7_notes 39 = .ok (.aload_n 0, 1) := by decide +kernel
theorem dX7_notes_40 : decode cX7_notes 40 = .ok (.dup, 1) := by decide +kernel
theorem dX7_notes_41 : decode cX7_notes 41 = .ok (.getfield 155, 3) := by decide +kernel
theorem dX7_notes_44 : decode cX7_notes 44 = .ok (.iconst 1, 1) := by decide +kernel
theorem dX7_notes_45 : decode cX7_notes 45 = .ok (.isub, 1) := by decide +kernel
theorem dX7_notes_46 : decode cX7_notes 46 = .ok (.putfield 155, 3) := by decide +kernel
theorem dX7_notes_49 : decode cX7_notes 49 = .ok (.aload_n 0, 1) := by decide +kernel
theorem dX7_notes_50 : decode cX7_notes 50 = .ok (.getfield 25, 3) := by decide +kernel
theorem dX7_notes_53 : decode cX7_notes 53 = .ok (.iconst 0, 1) := by decide +kernel
theorem dX7_notes_54 : decode cX7_notes 54 = .ok (.aload_n 0, 1) := by decide +kernel
theorem dX7_notes_55 : decode cX7_notes 55 = .ok (.getfield 34, 3) := by decide +kernel
theorem dX7_notes_58 : decode cX7_notes 58 = .ok (.bipush 92, 2) := by decide +kernel
theorem dX7_notes_60 : decode cX7_notes 60 = .ok (.aload_n 0, 1) := by decide +kernel
theorem dX7_notes_61 : decode cX7_notes 61 = .ok (.getfield 155, 3) := by decide +kernel
theorem dX7_notes_64 : decode cX7_notes 64 = .ok (.imul, 1) := by decide +kernel
theorem dX7_notes_65 : decode cX7_notes 65 = .ok (.invokestatic 151, 3) := by decide +kernel
theorem dX7_notes_68 : decode cX7_notes 68 = .ok (.aload_n 0, 1) := by decide +kernel
theorem dX7_notes_69 : decode cX7_notes 69 = .ok (.dup, 1) := by decide +kernel
theorem dX7_notes_70 : decode cX7_notes 70 = .ok (.getfield 155, 3) := by decide +kernel
theorem dX7_notes_73 : decode cX7_notes 73 = .ok (.iconst 1, 1) := by decide +kernel
theorem dX7_notes_74 : decode cX7_notes 74 = .ok (.iadd, 1) := by decide +kernel
theorem dX7_notes_75 : decode cX7_notes 75 = .ok (.putfield 155, 3) := by decide +kernel
theorem dX7_notes_78 : decode cX7_notes 78 = .ok (.return_, 1) := by decide +kernel
theorem dX7_becomes_0 : decode cX7_becomes 0 = .ok (.aload_n 0, 1) := by decide +kernel
theorem dX7_becomes_1 : decode cX7_becomes 1 = .ok (.invokevirtual 229, 3) := by decide +kernel
theorem dX7_becomes_4 : decode cX7_becomes 4 = .ok (.aload_n 0, 1) := by decide +kernel
theorem dX7_becomes_5 : decode cX7_becomes 5 = .ok (.getfield 25, 3) := by decide +kernel
theorem dX7_becomes_8 : decode cX7_becomes 8 = .ok (.iload_n 1, 1) := by decide +kernel
theorem dX7_becomes_9 : decode cX7_becomes 9 = .ok (.iaload, 1) := by decide +kernel
theorem dX7_becomes_10 : decode cX7_becomes 10 = .ok (.istore_n 3, 1) := by decide +kernel
theorem dX7_becomes_11 : decode cX7_becomes 11 = .ok (.aload_n 0, 1) := by decide +kernel
theorem dX7_becomes_12 : decode cX7_becomes 12 = .ok (.getfield 25, 3) := by decide +kernel
theorem dX7_becomes_15 : decode cX7_becomes 15 = .ok (.iload_n 1, 1) := by decide +kernel
theorem dX7_becomes_16 : decode cX7_becomes 16 = .ok (.iload_n 2, 1) := by decide +kernel
theorem dX7_becomes_17 : decode cX7_becomes 17 = .ok (.iastore, 1) := by decide +kernel
theorem dX7_becomes_18 : decode cX7_becomes 18 = .ok (.iload_n 3, 1) := by decide +kernel
theorem dX7_becomes_19 : decode cX7_becomes 19 = .ok (.ireturn, 1) := by decide +kernel
theorem dX7_change_0 : decode cX7_change 0 = .ok (.iload_n 2, 1) := by decide +kernel
theorem dX7_change_1 : decode cX7_change 1 = .ok (.ifCond .ne 13, 3) := by decide +kernel
theorem dX7_change_4 : decode cX7_change 4 = .ok (.iload_n 3, 1) := by decide +kernel
theorem dX7_change_5 : decode cX7_change 5 = .ok (.iconst 1, 1) := by decide +kernel
theorem dX7_change_6 : decode cX7_change 6 = .ok (.bipush 99, 2) := by decide +kernel
theorem dX7_change_8 : decode cX7_change 8 = .ok (.invokestatic 62, 3) := by decide +kernel
theorem dX7_change_11 : decode cX7_change 11 = .ok (.goto 38, 3) := by decide +kernel
theorem dX7_change_14 : decode cX7_change 14 = .ok (.iload_n 2, 1) := by decide +kernel
theorem dX7_change_15 : decode cX7_change 15 = .ok (.iconst 1, 1) := by decide +kernel
theorem dX7_change_16 : decode cX7_change 16 = .ok (.if_icmp .ne 13, 3) := by decide +kernel
theorem dX7_change_19 : decode cX7_change 19 = .ok (.iload_n 3, 1) := by decide +kernel
theorem dX7_change_20 : decode cX7_change 20 = .ok (.iconst 0, 1) := by decide +kernel
theorem dX7_change_21 : decode cX7_change 21 = .ok (.bipush 10, 2) := by decide +kernel
theorem dX7_change_23 : decode cX7_change 23 = .ok (.invokestatic 62, 3) := by decide +kernel
theorem dX7_change_26 : decode cX7_change 26 = .ok (.goto 23, 3) := by decide +kernel
theorem dX7_change_29 : decode cX7_change 29 = .ok (.iload_n 2, 1) := by decide +kernel
theorem dX7_change_30 : decode cX7_change 30 = .ok (.iconst 2, 1) := by decide +kernel
theorem dX7_change_31 : decode cX7_change 31 = .ok (.if_icmp .ne 17, 3) := by decide +kernel
theorem dX7_change_34 : decode cX7_change 34 = .ok (.iload_n 3, 1) := by decide +kernel
theorem dX7_change_35 : decode cX7_change 35 = .ok (.iconst 0, 1) := by decide +kernel
theorem dX7_change_36 : decode cX7_change 36 = .ok (.bipush 6, 2) := by decide +kernel
theorem dX7_change_38 : decode cX7_change 38 = .ok (.invokestatic 62, 3) := by decide +kernel
theorem dX7_change_41 : decode cX7_change 41 = .ok (.ifCond .eq 7, 3) := by decide +kernel
theorem dX7_change_44 : decode cX7_change 44 = .ok (.iconst 1, 1) := by decide +kernel
theorem dX7_change_45 : decode cX7_change 45 = .ok (.goto 4, 3) := by decide +kernel
theorem dX7_change_48 : decode cX7_change 48 = .ok (.iconst 0, 1) := by decide +kernel
theorem dX7_change_49 : decode cX7_change 49 = .ok (.istore 4, 2) := by decide +kernel
theorem dX7_change_51 : decode cX7_change 51 = .ok (.aload_n 0, 1) := by decide +kernel
theorem dX7_change_52 : decode cX7_change 52 = .ok (.iload_n 1, 1) := by decide +kernel
theorem dX7_change_53 : decode cX7_change 53 = .ok (.invokevirtual 232, 3) := by decide +kernel
theorem dX7_change_56 : decode cX7_change 56 = .ok (.ifCond .eq 8, 3) := by decide +kernel
theorem dX7_change_59 : decode cX7_change 59 = .ok (.iload 4, 2) := by decide +kernel
theorem dX7_change_61 : decode cX7_change 61 = .ok (.ifCond .ne 6, 3) := by decide +kernel
theorem dX7_change_64 : decode cX7_change 64 = .ok (.ldc 70, 2) := by decide +kernel
theorem dX7_change_66 : decode cX7_change 66 = .ok (.ireturn, 1) := by decide +kernel
theorem dX7_change_67 : decode cX7_change 67 = .ok (.aload_n 0, 1) := by decide +kernel
theorem dX7_change_68 : decode cX7_change 68 = .ok (.bipush 62, 2) := by decide +kernel
theorem dX7_change_70 : decode cX7_change 70 = .ok (.bipush 6, 2) := by decide +kernel
theorem dX7_change_72 : decode cX7_change 72 = .ok (.iload_n 1, 1) := by decide +kernel
theorem dX7_change_73 : decode cX7_change 73 = .ok (.imul, 1) := by decide +kernel
theorem dX7_change_74 : decode cX7_change 74 = .ok (.iadd, 1) := by decide +kernel
theorem dX7_change_75 : decode cX7_change 75 = .ok (.iload_n 2, 1) := by decide +kernel
theorem dX7_change_76 : decode cX7_change 76 = .ok (.ifCond .ne 7, 3) := by decide +kernel
theorem dX7_change_79 : decode cX7_change 79 = .ok (.iconst 1, 1) := by decide +kernel
theorem dX7_change_80 : decode cX7_change 80 = .ok (.goto 13, 3) := by decide +kernel
theorem dX7_change_83 : decode cX7_change 83 = .ok (.iload_n 2, 1) := by decide +kernel
theorem dX7_change_84 : decode cX7_change 84 = .ok (.iconst 1, 1) := by decide +kernel
theorem dX7_change_85 : decode cX7_change 85 = .ok (.if_icmp .ne 7, 3) := by decide +kernel
theorem dX7_change_88 : decode cX7_change 88 = .ok (.iconst 4, 1) := by decide +kernel
theorem dX7_change_89 : decode cX7_change 89 = .ok (.goto 4, 3) := by decide +kernel
theorem dX7_change_92 : decode cX7_change 92 = .ok (.iconst 5, 1) := by decide +kernel
theorem dX7_change_93 : decode cX7_change 93 = .ok (.iadd, 1) := by decide +kernel
theorem dX7_change_94 : decode cX7_change 94 = .ok (.iload_n 3, 1) := by decide +kernel
theorem dX7_change_95 : decode cX7_change 95 = .ok (.invokevirtual 235, 3) := by decide +kernel
theorem dX7_change_98 : decode cX7_change 98 = .ok (.ireturn, 1) := by decide +kernel
theorem dX7_become_0 : decode cX7_become 0 = .ok (.aload_n 0, 1) := by decide +kernel
theorem dX7_become_1 : decode cX7_become 1 = .ok (.iload_n 1, 1) := by decide +kernel
theorem dX7_become_2 : decode cX7_become 2 = .ok (.invokevirtual 232, 3) := by decide +kernel
theorem dX7_become_5 : decode cX7_become 5 = .ok (.ifCond .eq 12, 3) := by decide +kernel
theorem dX7_become_8 : decode cX7_become 8 = .ok (.iload_n 2, 1) := by decide +kernel
theorem dX7_become_9 : decode cX7_become 9 = .ok (.iconst 1, 1) := by decide +kernel
theorem dX7_become_10 : decode cX7_become 10 = .ok (.iconst 5, 1) := by decide +kernel
theorem dX7_become_11 : decode cX7_become 11 = .ok (.invokestatic 62, 3) := by decide +kernel
theorem dX7_become_14 : decode cX7_become 14 = .ok (.ifCond .ne 6, 3) := by decide +kernel
theorem dX7_become_17 : decode cX7_become 17 = .ok (.ldc 70, 2) := by decide +kernel
theorem dX7_become_19 : decode cX7_become 19 = .ok (.ireturn, 1) := by decide +kernel
theorem dX7_become_20 : decode cX7_become 20 = .ok (.aload_n 0, 1) := by decide +kernel
theorem dX7_become_21 : decode cX7_become 21 = .ok (.getfield 25, 3) := by decide +kernel
theorem dX7_become_24 : decode cX7_become 24 = .ok (.bipush 62, 2) := by decide +kernel
theorem dX7_become_26 : decode cX7_become 26 = .ok (.bipush 6, 2) := by decide +kernel
theorem dX7_become_28 : decode cX7_become 28 = .ok (.iload_n 1, 1) := by decide +kernel
theorem dX7_become_29 : decode cX7_become 29 = .ok (.imul, 1) := by decide +kernel
theorem dX7_become_30 : decode cX7_become 30 = .ok (.iadd, 1) := by decide +kernel
theorem dX7_become_31 : decode cX7_become 31 = .ok (.iaload, 1) := by decide +kernel
theorem dX7_become_32 : decode cX7_become 32 = .ok (.iload_n 2, 1) := by decide +kernel
theorem dX7_become_33 : decode cX7_become 33 = .ok (.if_icmp .ne 8, 3) := by decide +kernel
theorem dX7_become_36 : decode cX7_become 36 = .ok (.ldc 238, 2) := by decide +kernel
theorem dX7_become_38 : decode cX7_become 38 = .ok (.goto 15, 3) := by decide +kernel
theorem dX7_become_41 : decode cX7_become 41 = .ok (.aload_n 0, 1) := by decide +kernel
theorem dX7_become_42 : decode cX7_become 42 = .ok (.bipush 62, 2) := by decide +kernel
theorem dX7_become_44 : decode cX7_become 44 = .ok (.bipush 6, 2) := by decide +kernel
theorem dX7_become_46 : decode cX7_become 46 = .ok (.iload_n 1, 1) := by decide +kernel
theorem dX7_become_47 : decode cX7_become 47 = .ok (.imul, 1) := by decide +kernel
theorem dX7_become_48 : decode cX7_become 48 = .ok (.iadd, 1) := by decide +kernel
theorem dX7_become_49 : decode cX7_become 49 = .ok (.iload_n 2, 1) := by decide +kernel
theorem dX7_become_50 : decode cX7_become 50 = .ok (.invokevirtual 235, 3) := by decide +kernel
theorem dX7_become_53 : decode cX7_become 53 = .ok (.ireturn, 1) := by decide +kernel
theorem dX7_swaps_0 : decode cX7_swaps 0 = .ok (.iconst 0, 1) := by decide +kernel
theorem dX7_swaps_1 : decode cX7_swaps 1 = .ok (.istore_n 3, 1) := by decide +kernel
theorem dX7_swaps_2 : decode cX7_swaps 2 = .ok (.iload_n 3, 1) := by decide +kernel
theorem dX7_swaps_3 : decode cX7_swaps 3 = .ok (.bipush 6, 2) := by decide +kernel
theorem dX7_swaps_5 : decode cX7_swaps 5 = .ok (.if_icmp .ge 57, 3) := by decide +kernel
theorem dX7_swaps_8 : decode cX7_swaps 8 = .ok (.aload_n 0, 1) := by decide +kernel
theorem dX7_swaps_9 : decode cX7_swaps 9 = .ok (.bipush 62, 2) := by decide +kernel
theorem dX7_swaps_11 : decode cX7_swaps 11 = .ok (.bipush 6, 2) := by decide +kernel
theorem dX7_swaps_13 : decode cX7_swaps 13 = .ok (.iload_n 1, 1) := by decide +kernel
theorem dX7_swaps_14 : decode cX7_swaps 14 = .ok (.imul, 1) := by decide +kernel
theorem dX7_swaps_15 : decode cX7_swaps 15 = .ok (.iadd, 1) := by decide +kernel
theorem dX7_swaps_16 : decode cX7_swaps 16 = .ok (.iload_n 3, 1) := by decide +kernel
theorem dX7_swaps_17 : decode cX7_swaps 17 = .ok (.iadd, 1) := by decide +kernel
theorem dX7_swaps_18 : decode cX7_swaps 18 = .ok (.iaload, 1) := by decide +kernel
theorem dX7_swaps_19 : decode cX7_swaps 19 = .ok (.istore 4, 2) := by decide +kernel
theorem dX7_swaps_21 : decode cX7_swaps 21 = .ok (.aload_n 0, 1) := by decide +kernel
theorem dX7_swaps_22 : decode cX7_swaps 22 = .ok (.bipush 62, 2) := by decide +kernel
theorem dX7_swaps_24 : decode cX7_swaps 24 = .ok (.bipush 6, 2) := by decide +kernel
theorem dX7_swaps_26 : decode cX7_swaps 26 = .ok (.iload_n 1, 1) := by decide +kernel
theorem dX7_swaps_27 : decode cX7_swaps 27 = .ok (.imul, 1) := by decide +kernel
theorem dX7_swaps_28 : decode cX7_swaps 28 = .ok (.iadd, 1) := by decide +kernel
theorem dX7_swaps_29 : decode cX7_swaps 29 = .ok (.iload_n 3, 1) := by decide +kernel
theorem dX7_swaps_30 : decode cX7_swaps 30 = .ok (.iadd, 1) := by decide +kernel
theorem dX7_swaps_31 : decode cX7_swaps 31 = .ok (.aload_n 0, 1) := by decide +kernel
theorem dX7_swaps_32 : decode cX7_swaps 32 = .ok (.bipush 62, 2) := by decide +kernel
theorem dX7_swaps_34 : decode cX7_swaps 34 = .ok (.bipush 6, 2) := by decide +kernel
theorem dX7_swaps_36 : decode cX7_swaps 36 = .ok (.iload_n 2, 1) := by decide +kernel
theorem dX7_swaps_37 : decode cX7_swaps 37 = .ok (.imul, 1) := by decide +kernel
theorem dX7_swaps_38 : decode cX7_swaps 38 = .ok (.iadd, 1) := by decide +kernel
theorem dX7_swaps_39 : decode cX7_swaps 39 = .ok (.iload_n 3, 1) := by decide +kernel
theorem dX7_swaps_40 : decode cX7_swaps 40 = .ok (.iadd, 1) := by decide +kernel
theorem dX7_swaps_41 : decode cX7_swaps 41 = .ok (.iaload, 1) := by decide +kernel
theorem dX7_swaps_42 : decode cX7_swaps 42 = .ok (.iastore, 1) := by decide +kernel
theorem dX7_swaps_43 : decode cX7_swaps 43 = .ok (.aload_n 0, 1) := by decide +kernel
theorem dX7_swaps_44 : decode cX7_swaps 44 = .ok (.bipush 62, 2) := by decide +kernel
theorem dX7_swaps_46 : decode cX7_swaps 46 = .ok (.bipush 6, 2) := by decide +kernel
theorem dX7_swaps_48 : decode cX7_swaps 48 = .ok (.iload_n 2, 1) := by decide +kernel
theorem dX7_swaps_49 : decode cX7_swaps 49 = .ok (.imul, 1) := by decide +kernel
theorem dX7_swaps_50 : decode cX7_swaps 50 = .ok (.iadd, 1) := by decide +kernel
theorem dX7_swaps_51 : decode cX7_swaps 51 = .ok (.iload_n 3, 1) := by decide +kernel
theorem dX7_swaps_52 : decode cX7_swaps 52 = .ok (.iadd, 1) := by decide +kernel
theorem dX7_swaps_53 : decode cX7_swaps 53 = .ok (.iload 4, 2) := by decide +kernel
theorem dX7_swaps_55 : decode cX7_swaps 55 = .ok (.iastore, 1) := by decide +kernel
theorem dX7_swaps_56 : decode cX7_swaps 56 = .ok (.iinc 3 1, 3) := by decide +kernel
theorem dX7_swaps_59 : decode cX7_swaps 59 = .ok (.goto (-57), 3) := by decide +kernel
theorem dX7_swaps_62 : decode cX7_swaps 62 = .ok (.return_, 1) := by decide +kernel
theorem dX7_swap_0 : decode cX7_swap 0 = .ok (.aload_n 0, 1) := by decide +kernel
theorem dX7_swap_1 : decode cX7_swap 1 = .ok (.iload_n 1, 1) := by decide +kernel
theorem dX7_swap_2 : decode cX7_swap 2 = .ok (.invokevirtual 232, 3) := by decide +kernel
theorem dX7_swap_5 : decode cX7_swap 5 = .ok (.ifCond .eq 11, 3) := by decide +kernel
theorem dX7_swap_8 : decode cX7_swap 8 = .ok (.aload_n 0, 1) := by decide +kernel
theorem dX7_swap_9 : decode cX7_swap 9 = .ok (.iload_n 2, 1) := by decide +kernel
theorem dX7_swap_10 : decode cX7_swap 10 = .ok (.invokevirtual 232, 3) := by decide +kernel
theorem dX7_swap_13 : decode cX7_swap 13 = .ok (.ifCond .ne 6, 3) := by decide +kernel
theorem dX7_swap_16 : decode cX7_swap 16 = .ok (.ldc 70, 2) := by decide +kernel
theorem dX7_swap_18 : decode cX7_swap 18 = .ok (.ireturn, 1) := by decide +kernel
theorem dX7_swap_19 : decode cX7_swap 19 = .ok (.iload_n 1, 1) := by decide +kernel
theorem dX7_swap_20 : decode cX7_swap 20 = .ok (.iload_n 2, 1) := by decide +kernel
theorem dX7_swap_21 : decode cX7_swap 21 = .ok (.if_icmp .ne 6, 3) := by decide +kernel
theorem dX7_swap_24 : decode cX7_swap 24 = .ok (.ldc 238, 2) := by decide +kernel
theorem dX7_swap_26 : decode cX7_swap 26 = .ok (.ireturn, 1) := by decide +kernel
theorem dX7_swap_27 : decode cX7_swap 27 = .ok (.aload_n 0, 1) := by decide +kernel
theorem dX7_swap_28 : decode cX7_swap 28 = .ok (.invokevirtual 229, 3) := by decide +kernel
theorem dX7_swap_31 : decode cX7_swap 31 = .ok (.aload_n 0, 1) := by decide +kernel
theorem dX7_swap_32 : decode cX7_swap 32 = .ok (.getfield 25, 3) := by decide +kernel
theorem dX7_swap_35 : decode cX7_swap 35 = .ok (.iload_n 1, 1) := by decide +kernel
theorem dX7_swap_36 : decode cX7_swap 36 = .ok (.iload_n 2, 1) := by decide +kernel
theorem dX7_swap_37 : decode cX7_swap 37 = .ok (.invokestatic 239, 3) := by decide +kernel
theorem dX7_swap_40 : decode cX7_swap 40 = .ok (.iload_n 1, 1) := by decide +kernel
theorem dX7_swap_41 : decode cX7_swap 41 = .ok (.iload_n 2, 1) := by decide +kernel
theorem dX7_swap_42 : decode cX7_swap 42 = .ok (.if_icmp .ge 9, 3) := by decide +kernel
theorem dX7_swap_45 : decode cX7_swap 45 = .ok (.iload_n 2, 1) := by decide +kernel
theorem dX7_swap_46 : decode cX7_swap 46 = .ok (.iload_n 1, 1) := by decide +kernel
theorem dX7_swap_47 : decode cX7_swap 47 = .ok (.isub, 1) := by decide +kernel
theorem dX7_swap_48 : decode cX7_swap 48 = .ok (.goto 6, 3) := by decide +kernel
theorem dX7_swap_51 : decode cX7_swap 51 = .ok (.iload_n 1, 1) := by decide +kernel
theorem dX7_swap_52 : decode cX7_swap 52 = .ok (.iload_n 2, 1) := by decide +kernel
theorem dX7_swap_53 : decode cX7_swap 53 = .ok (.isub, 1) := by decide +kernel
theorem dX7_swap_54 : decode cX7_swap 54 = .ok (.iconst 1, 1) := by decide +kernel
theorem dX7_swap_55 : decode cX7_swap 55 = .ok (.iadd, 1) := by decide +kernel
theorem dX7_swap_56 : decode cX7_swap 56 = .ok (.ireturn, 1) := by decide +kernel
theorem dX7_state_0 : decode cX7_state 0 = .ok (.aload_n 0, 1) := by decide +kernel
theorem dX7_state_1 : decode cX7_state 1 = .ok (.iload_n 1, 1) := by decide +kernel
theorem dX7_state_2 : decode cX7_state 2 = .ok (.invokevirtual 242, 3) := by decide +kernel
theorem dX7_state_5 : decode cX7_state 5 = .ok (.ifCond .eq 26, 3) := by decide +kernel
theorem dX7_state_8 : decode cX7_state 8 = .ok (.iload_n 2, 1) := by decide +kernel
theorem dX7_state_9 : decode cX7_state 9 = .ok (.iconst 0, 1) := by decide +kernel
theorem dX7_state_10 : decode cX7_state 10 = .ok (.aload_n 0, 1) := by decide +kernel
theorem dX7_state_11 : decode cX7_state 11 = .ok (.getfield 25, 3) := by decide +kernel
theorem dX7_state_14 : decode cX7_state 14 = .ok (.iconst 2, 1) := by decide +kernel
theorem dX7_state_15 : decode cX7_state 15 = .ok (.bipush 10, 2) := by decide +kernel
theorem dX7_state_17 : decode cX7_state 17 = .ok (.iload_n 1, 1) := by decide +kernel
theorem dX7_state_18 : decode cX7_state 18 = .ok (.imul, 1) := by decide +kernel
theorem dX7_state_19 : decode cX7_state 19 = .ok (.iadd, 1) := by decide +kernel
theorem dX7_state_20 : decode cX7_state 20 = .ok (.iconst 1, 1) := by decide +kernel
theorem dX7_state_21 : decode cX7_state 21 = .ok (.iadd, 1) := by decide +kernel
theorem dX7_state_22 : decode cX7_state 22 = .ok (.iaload, 1) := by decide +kernel
theorem dX7_state_23 : decode cX7_state 23 = .ok (.iconst 1, 1) := by decide +kernel
theorem dX7_state_24 : decode cX7_state 24 = .ok (.isub, 1) := by decide +kernel
theorem dX7_state_25 : decode cX7_state 25 = .ok (.invokestatic 62, 3) := by decide +kernel
theorem dX7_state_28 : decode cX7_state 28 = .ok (.ifCond .ne 6, 3) := by decide +kernel
theorem dX7_state_31 : decode cX7_state 31 = .ok (.ldc 70, 2) := by decide +kernel
theorem dX7_state_33 : decode cX7_state 33 = .ok (.ireturn, 1) := by decide +kernel
theorem dX7_state_34 : decode cX7_state 34 = .ok (.iload_n 3, 1) := by decide +kernel
theorem dX7_state_35 : decode cX7_state 35 = .ok (.ifCond .ne 14, 3) := by decide +kernel
theorem dX7_state_38 : decode cX7_state 38 = .ok (.iload 4, 2) := by decide +kernel
theorem dX7_state_40 : decode cX7_state 40 = .ok (.iconst 1, 1) := by decide +kernel
theorem dX7_state_41 : decode cX7_state 41 = .ok (.bipush 99, 2) := by decide +kernel
theorem dX7_state_43 : decode cX7_state 43 = .ok (.invokestatic 62, 3) := by decide +kernel
theorem dX7_state_46 : decode cX7_state 46 = .ok (.goto 38, 3) := by decide +kernel
theorem dX7_state_49 : decode cX7_state 49 = .ok (.iload_n 3, 1) := by decide +kernel
theorem dX7_state_50 : decode cX7_state 50 = .ok (.iconst 1, 1) := by decide +kernel
theorem dX7_state_51 : decode cX7_state 51 = .ok (.if_icmp .ne 12, 3) := by decide +kernel
theorem dX7_state_54 : decode cX7_state 54 = .ok (.aload_n 0, 1) := by decide +kernel
theorem dX7_state_55 : decode cX7_state 55 = .ok (.iload 4, 2) := by decide +kernel
theorem dX7_state_57 : decode cX7_state 57 = .ok (.invokevirtual 242, 3) := by decide +kernel
theorem dX7_state_60 : decode cX7_state 60 = .ok (.goto 24, 3) := by decide +kernel
theorem dX7_state_63 : decode cX7_state 63 = .ok (.iload_n 3, 1) := by decide +kernel
theorem dX7_state_64 : decode cX7_state 64 = .ok (.iconst 2, 1) := by decide +kernel
theorem dX7_state_65 : decode cX7_state 65 = .ok (.if_icmp .ne 18, 3) := by decide +kernel
theorem dX7_state_68 : decode cX7_state 68 = .ok (.iload 4, 2) := by decide +kernel
theorem dX7_state_70 : decode cX7_state 70 = .ok (.iconst 1, 1) := by decide +kernel
theorem dX7_state_71 : decode cX7_state 71 = .ok (.bipush 9, 2) := by decide +kernel
theorem dX7_state_73 : decode cX7_state 73 = .ok (.invokestatic 62, 3) := by decide +kernel
theorem dX7_state_76 : decode cX7_state 76 = .ok (.ifCond .eq 7, 3) := by decide +kernel
theorem dX7_state_79 : decode cX7_state 79 = .ok (.iconst 1, 1) := by decide +kernel
theorem dX7_state_80 : decode cX7_state 80 = .ok (.goto 4, 3) := by decide +kernel
theorem dX7_state_83 : decode cX7_state 83 = .ok (.iconst 0, 1) := by decide +kernel
theorem dX7_state_84 : decode cX7_state 84 = .ok (.istore 5, 2) := by decide +kernel
theorem dX7_state_86 : decode cX7_state 86 = .ok (.iload 5, 2) := by decide +kernel
theorem dX7_state_88 : decode cX7_state 88 = .ok (.ifCond .ne 6, 3) := by decide +kernel
theorem dX7_state_91 : decode cX7_state 91 = .ok (.ldc 70, 2) := by decide +kernel
theorem dX7_state_93 : decode cX7_state 93 = .ok (.ireturn, 1) := by decide +kernel
theorem dX7_state_94 : decode cX7_state 94 = .ok (.iconst 2, 1) := by decide +kernel
theorem dX7_state_95 : decode cX7_state 95 = .ok (.bipush 10, 2) := by decide +kernel
theorem dX7_state_97 : decode cX7_state 97 = .ok (.iload_n 1, 1) := by decide +kernel
theorem dX7_state_98 : decode cX7_state 98 = .ok (.imul, 1) := by decide +kernel
theorem dX7_state_99 : decode cX7_state 99 = .ok (.iadd, 1) := by decide +kernel
theorem dX7_state_100 : decode cX7_state 100 = .ok (.iconst 2, 1) := by decide +kernel
theorem dX7_state_101 : decode cX7_state 101 = .ok (.iadd, 1) := by decide +kernel
theorem dX7_state_102 : decode cX7_state 102 = .ok (.iconst 2, 1) := by decide +kernel
theorem dX7_state_103 : decode cX7_state 103 = .ok (.iload_n 2, 1) := by decide +kernel
theorem dX7_state_104 : decode cX7_state 104 = .ok (.imul, 1) := by decide +kernel
theorem dX7_state_105 : decode cX7_state 105 = .ok (.iadd, 1) := by decide +kernel
theorem dX7_state_106 : decode cX7_state 106 = .ok (.istore 6, 2) := by decide +kernel
theorem dX7_state_108 : decode cX7_state 108 = .ok (.aload_n 0, 1) := by decide +kernel
theorem dX7_state_109 : decode cX7_state 109 = .ok (.iload 6, 2) := by decide +kernel
theorem dX7_state_111 : decode cX7_state 111 = .ok (.iload_n 3, 1) := by decide +kernel
theorem dX7_state_112 : decode cX7_state 112 = .ok (.invokevirtual 235, 3) := by decide +kernel
theorem dX7_state_115 : decode cX7_state 115 = .ok (.istore 7, 2) := by decide +kernel
theorem dX7_state_117 : decode cX7_state 117 = .ok (.aload_n 0, 1) := by decide +kernel
theorem dX7_state_118 : decode cX7_state 118 = .ok (.getfield 25, 3) := by decide +kernel
theorem dX7_state_121 : decode cX7_state 121 = .ok (.iload 6, 2) := by decide +kernel
theorem dX7_state_123 : decode cX7_state 123 = .ok (.iconst 1, 1) := by decide +kernel
theorem dX7_state_124 : decode cX7_state 124 = .ok (.iadd, 1) := by decide +kernel
theorem dX7_state_125 : decode cX7_state 125 = .ok (.iload 4, 2) := by decide +kernel
theorem dX7_state_127 : decode cX7_state 127 = .ok (.iastore, 1) := by decide +kernel
theorem dX7_state_128 : decode cX7_state 128 = .ok (.iload 7, 2) := by decide +kernel
theorem dX7_state_130 : decode cX7_state 130 = .ok (.ireturn, 1) := by decide +kernel
theorem dX7_belong_0 : decode cX7_belong 0 = .ok (.aload_n 0, 1) := by decide +kernel
theorem dX7_belong_1 : decode cX7_belong 1 = .ok (.iload_n 1, 1) := by decide +kernel
theorem dX7_belong_2 : decode cX7_belong 2 = .ok (.invokevirtual 242, 3) := by decide +kernel
theorem dX7_belong_5 : decode cX7_belong 5 = .ok (.ifCond .eq 12, 3) := by decide +kernel
theorem dX7_belong_8 : decode cX7_belong 8 = .ok (.iload_n 2, 1) := by decide +kernel
theorem dX7_belong_9 : decode cX7_belong 9 = .ok (.iconst 0, 1) := by decide +kernel
theorem dX7_belong_10 : decode cX7_belong 10 = .ok (.iconst 3, 1) := by decide +kernel
theorem dX7_belong_11 : decode cX7_belong 11 = .ok (.invokestatic 62, 3) := by decide +kernel
theorem dX7_belong_14 : decode cX7_belong 14 = .ok (.ifCond .ne 6, 3) := by decide +kernel
theorem dX7_belong_17 : decode cX7_belong 17 = .ok (.ldc 70, 2) := by decide +kernel
theorem dX7_belong_19 : decode cX7_belong 19 = .ok (.ireturn, 1) := by decide +kernel
theorem dX7_belong_20 : decode cX7_belong 20 = .ok (.aload_n 0, 1) := by decide +kernel
theorem dX7_belong_21 : decode cX7_belong 21 = .ok (.getfield 25, 3) := by decide +kernel
theorem dX7_belong_24 : decode cX7_belong 24 = .ok (.iconst 2, 1) := by decide +kernel
theorem dX7_belong_25 : decode cX7_belong 25 = .ok (.bipush 10, 2) := by decide +kernel
theorem dX7_belong_27 : decode cX7_belong 27 = .ok (.iload_n 1, 1) := by decide +kernel
theorem dX7_belong_28 : decode cX7_belong 28 = .ok (.imul, 1) := by decide +kernel
theorem dX7_belong_29 : decode cX7_belong 29 = .ok (.iadd, 1) := by decide +kernel
theorem dX7_belong_30 : decode cX7_belong 30 = .ok (.iaload, 1) := by decide +kernel
theorem dX7_belong_31 : decode cX7_belong 31 = .ok (.iload_n 2, 1) := by decide +kernel
theorem dX7_belong_32 : decode cX7_belong 32 = .ok (.if_icmp .ne 8, 3) := by decide +kernel
theorem dX7_belong_35 : decode cX7_belong 35 = .ok (.ldc 238, 2) := by decide +kernel
theorem dX7_belong_37 : decode cX7_belong 37 = .ok (.goto 14, 3) := by decide +kernel
theorem dX7_belong_40 : decode cX7_belong 40 = .ok (.aload_n 0, 1) := by decide +kernel
theorem dX7_belong_41 : decode cX7_belong 41 = .ok (.iconst 2, 1) := by decide +kernel
theorem dX7_belong_42 : decode cX7_belong 42 = .ok (.bipush 10, 2) := by decide +kernel
theorem dX7_belong_44 : decode cX7_belong 44 = .ok (.iload_n 1, 1) := by decide +kernel
theorem dX7_belong_45 : decode cX7_belong 45 = .ok (.imul, 1) := by decide +kernel
theorem dX7_belong_46 : decode cX7_belong 46 = .ok (.iadd, 1) := by decide +kernel
theorem dX7_belong_47 : decode cX7_belong 47 = .ok (.iload_n 2, 1) := by decide +kernel
theorem dX7_belong_48 : decode cX7_belong 48 = .ok (.invokevirtual 235, 3) := by decide +kernel
theorem dX7_belong_51 : decode cX7_belong 51 = .ok (.ireturn, 1) := by decide +kernel
theorem dX7_undo_0 : decode cX7_undo 0 = .ok (.aload_n 0, 1) := by decide +kernel
theorem dX7_undo_1 : decode cX7_undo 1 = .ok (.getfield 155, 3) := by decide +kernel
theorem dX7_undo_4 : decode cX7_undo 4 = .ok (.ifCond .ne 6, 3) := by decide +kernel
theorem dX7_undo_7 : decode cX7_undo 7 = .ok (.ldc 238, 2) := by decide +kernel
theorem dX7_undo_9 : decode cX7_undo 9 = .ok (.ireturn, 1) := by decide +kernel
theorem dX7_undo_10 : decode cX7_undo 10 = .ok (.aload_n 0, 1) := by decide +kernel
theorem dX7_undo_11 : decode cX7_undo 11 = .ok (.dup, 1) := by decide +kernel
theorem dX7_undo_12 : decode cX7_undo 12 = .ok (.getfield 155, 3) := by decide +kernel
theorem dX7_undo_15 : decode cX7_undo 15 = .ok (.iconst 1, 1) := by decide +kernel
theorem dX7_undo_16 : decode cX7_undo 16 = .ok (.isub, 1) := by decide +kernel
theorem dX7_undo_17 : decode cX7_undo 17 = .ok (.putfield 155, 3) := by decide +kernel
theorem dX7_undo_20 : decode cX7_undo 20 = .ok (.aload_n 0, 1) := by decide +kernel
theorem dX7_undo_21 : decode cX7_undo 21 = .ok (.getfield 34, 3) := by decide +kernel
theorem dX7_undo_24 : decode cX7_undo 24 = .ok (.bipush 92, 2) := by decide +kernel
theorem dX7_undo_26 : decode cX7_undo 26 = .ok (.aload_n 0, 1) := by decide +kernel
theorem dX7_undo_27 : decode cX7_undo 27 = .ok (.getfield 155, 3) := by decide +kernel
theorem dX7_undo_30 : decode cX7_undo 30 = .ok (.imul, 1) := by decide +kernel
theorem dX7_undo_31 : decode cX7_undo 31 = .ok (.aload_n 0, 1) := by decide +kernel
theorem dX7_undo_32 : decode cX7_undo 32 = .ok (.getfield 25, 3) := by decide +kernel
theorem dX7_undo_35 : decode cX7_undo 35 = .ok (.iconst 0, 1) := by decide +kernel
theorem dX7_undo_36 : decode cX7_undo 36 = .ok (.invokestatic 151, 3) := by decide +kernel
theorem dX7_undo_39 : decode cX7_undo 39 = .ok (.aload_n 0, 1) := by decide +kernel
theorem dX7_undo_40 : decode cX7_undo 40 = .ok (.getfield 155, 3) := by decide +kernel
theorem dX7_undo_43 : decode cX7_undo 43 = .ok (.ireturn, 1) := by decide +kernel
theorem dX7_method_0 : decode cX7_method 0 = .ok (.aload_n 0, 1) := by decide +kernel
theorem dX7_method_1 : decode cX7_method 1 = .ok (.iload_n 1, 1) := by decide +kernel
theorem dX7_method_2 : decode cX7_method 2 = .ok (.invokevirtual 242, 3) := by decide +kernel
theorem dX7_method_5 : decode cX7_method 5 = .ok (.ifCond .ne 6, 3) := by decide +kernel
theorem dX7_method_8 : decode cX7_method 8 = .ok (.ldc 70, 2) := by decide +kernel
theorem dX7_method_10 : decode cX7_method 10 = .ok (.ireturn, 1) := by decide +kernel
theorem dX7_method_11 : decode cX7_method 11 = .ok (.iconst 2, 1) := by decide +kernel
theorem dX7_method_12 : decode cX7_method 12 = .ok (.bipush 10, 2) := by decide +kernel
theorem dX7_method_14 : decode cX7_method 14 = .ok (.iload_n 1, 1) := by decide +kernel
theorem dX7_method_15 : decode cX7_method 15 = .ok (.imul, 1) := by decide +kernel
theorem dX7_method_16 : decode cX7_method 16 = .ok (.iadd, 1) := by decide +kernel
theorem dX7_method_17 : decode cX7_method 17 = .ok (.istore_n 3, 1) := by decide +kernel
theorem dX7_method_18 : decode cX7_method 18 = .ok (.iload_n 2, 1) := by decide +kernel
theorem dX7_method_19 : decode cX7_method 19 = .ok (.iconst 3, 1) := by decide +kernel
theorem dX7_method_20 : decode cX7_method 20 = .ok (.if_icmp .ge 42, 3) := by decide +kernel
theorem dX7_method_23 : decode cX7_method 23 = .ok (.iload_n 2, 1) := by decide +kernel
theorem dX7_method_24 : decode cX7_method 24 = .ok (.ifCond .eq 8, 3) := by decide +kernel
theorem dX7_method_27 : decode cX7_method 27 = .ok (.iload_n 2, 1) := by decide +kernel
theorem dX7_method_28 : decode cX7_method 28 = .ok (.iconst 1, 1) := by decide +kernel
theorem dX7_method_29 : decode cX7_method 29 = .ok (.if_icmp .ne 14, 3) := by decide +kernel
theorem dX7_method_32 : decode cX7_method 32 = .ok (.aload_n 0, 1) := by decide +kernel
theorem dX7_method_33 : decode cX7_method 33 = .ok (.getfield 25, 3) := by decide +kernel
theorem dX7_method_36 : decode cX7_method 36 = .ok (.iload_n 3, 1) := by decide +kernel
theorem dX7_method_37 : decode cX7_method 37 = .ok (.iload_n 2, 1) := by decide +kernel
theorem dX7_method_38 : decode cX7_method 38 = .ok (.iadd, 1) := by decide +kernel
theorem dX7_method_39 : decode cX7_method 39 = .ok (.iaload, 1) := by decide +kernel
theorem dX7_method_40 : decode cX7_method 40 = .ok (.goto 21, 3) := by decide +kernel
theorem dX7_method_43 : decode cX7_method 43 = .ok (.iload_n 2, 1) := by decide +kernel
theorem dX7_method_44 : decode cX7_method 44 = .ok (.iconst 2, 1) := by decide +kernel
theorem dX7_method_45 : decode cX7_method 45 = .ok (.if_icmp .ne 14, 3) := by decide +kernel
theorem dX7_method_48 : decode cX7_method 48 = .ok (.aload_n 0, 1) := by decide +kernel
theorem dX7_method_49 : decode cX7_method 49 = .ok (.getfield 25, 3) := by decide +kernel
theorem dX7_method_52 : decode cX7_method 52 = .ok (.iload_n 1, 1) := by decide +kernel
theorem dX7_method_53 : decode cX7_method 53 = .ok (.invokestatic 169, 3) := by decide +kernel
theorem dX7_method_56 : decode cX7_method 56 = .ok (.goto 5, 3) := by decide +kernel
theorem dX7_method_59 : decode cX7_method 59 = .ok (.ldc 70, 2) := by decide +kernel
theorem dX7_method_61 : decode cX7_method 61 = .ok (.ireturn, 1) := by decide +kernel
theorem dX7_method_62 : decode cX7_method 62 = .ok (.iload_n 2, 1) := by decide +kernel
theorem dX7_method_63 : decode cX7_method 63 = .ok (.bipush 10, 2) := by decide +kernel
theorem dX7_method_65 : decode cX7_method 65 = .ok (.bipush 13, 2) := by decide +kernel
theorem dX7_method_67 : decode cX7_method 67 = .ok (.invokestatic 62, 3) := by decide +kernel
theorem dX7_method_70 : decode cX7_method 70 = .ok (.ifCond .ne 17, 3) := by decide +kernel
theorem dX7_method_73 : decode cX7_method 73 = .ok (.iload_n 2, 1) := by decide +kernel
theorem dX7_method_74 : decode cX7_method 74 = .ok (.bipush 20, 2) := by decide +kernel
theorem dX7_method_76 : decode cX7_method 76 = .ok (.bipush 23, 2) := by decide +kernel
theorem dX7_method_78 : decode cX7_method 78 = .ok (.invokestatic 62, 3) := by decide +kernel
theorem dX7_method_81 : decode cX7_method 81 = .ok (.ifCond .ne 6, 3) := by decide +kernel
theorem dX7_method_84 : decode cX7_method 84 = .ok (.ldc 70, 2) := by decide +kernel
theorem dX7_method_86 : decode cX7_method 86 = .ok (.ireturn, 1) := by decide +kernel
theorem dX7_method_87 : decode cX7_method 87 = .ok (.iload_n 2, 1) := by decide +kernel
theorem dX7_method_88 : decode cX7_method 88 = .ok (.bipush 10, 2) := by decide +kernel
theorem dX7_method_90 : decode cX7_method 90 = .ok (.irem, 1) := by decide +kernel
theorem dX7_method_91 : decode cX7_method 91 = .ok (.istore 4, 2) := by decide +kernel
theorem dX7_method_93 : decode cX7_method 93 = .ok (.iload 4, 2) := by decide +kernel
theorem dX7_method_95 : decode cX7_method 95 = .ok (.aload_n 0, 1) := by decide +kernel
theorem dX7_method_96 : decode cX7_method 96 = .ok (.getfield 25, 3) := by decide +kernel
theorem dX7_method_99 : decode cX7_method 99 = .ok (.iload_n 3, 1) := by decide +kernel
theorem dX7_method_100 : decode cX7_method 100 = .ok (.iconst 1, 1) := by decide +kernel
theorem dX7_method_101 : decode cX7_method 101 = .ok (.iadd, 1) := by decide +kernel
theorem dX7_method_102 : decode cX7_method 102 = .ok (.iaload, 1) := by decide +kernel
theorem dX7_method_103 : decode cX7_method 103 = .ok (.if_icmp .ge 24, 3) := by decide +kernel
theorem dX7_method_106 : decode cX7_method 106 = .ok (.aload_n 0, 1) := by decide +kernel
theorem dX7_method_107 : decode cX7_method 107 = .ok (.getfield 25, 3) := by decide +kernel
theorem dX7_method_110 : decode cX7_method 110 = .ok (.iload_n 3, 1) := by decide +kernel
theorem dX7_method_111 : decode cX7_method 111 = .ok (.iconst 2, 1) := by decide +kernel
theorem dX7_method_112 : decode cX7_method 112 = .ok (.iadd, 1) := by decide +kernel
theorem dX7_method_113 : decode cX7_method 113 = .ok (.iconst 2, 1) := by decide +kernel
theorem dX7_method_114 : decode cX7_method 114 = .ok (.iload 4, 2) := by decide +kernel
theorem dX7_method_116 : decode cX7_method 116 = .ok (.imul, 1) := by decide +kernel
theorem dX7_method_117 : decode cX7_method 117 = .ok (.iadd, 1) := by decide +kernel
theorem dX7_method_118 : decode cX7_method 118 = .ok (.iload_n 2, 1) := by decide +kernel
theorem dX7_method_119 : decode cX7_method 119 = .ok (.bipush 20, 2) := by decide +kernel
theorem dX7_method_121 : decode cX7_method 121 = .ok (.idiv, 1) := by decide +kernel
theorem dX7_method_122 : decode cX7_method 122 = .ok (.iadd, 1) := by decide +kernel
theorem dX7_method_123 : decode cX7_method 123 = .ok (.iaload, 1) := by decide +kernel
theorem dX7_method_124 : decode cX7_method 124 = .ok (.goto 5, 3) := by decide +kernel
theorem dX7_method_127 : decode cX7_method 127 = .ok (.ldc 56, 2) := by decide +kernel
theorem dX7_method_129 : decode cX7_method 129 = .ok (.ireturn, 1) := by decide +kernel
theorem dX7_advice_0 : decode cX7_advice 0 = .ok (.aload_n 0, 1) := by decide +kernel
theorem dX7_advice_1 : decode cX7_advice 1 = .ok (.iload_n 1, 1) := by decide +kernel
theorem dX7_advice_2 : decode cX7_advice 2 = .ok (.invokevirtual 232, 3) := by decide +kernel
theorem dX7_advice_5 : decode cX7_advice 5 = .ok (.ifCond .eq 31, 3) := by decide +kernel
theorem dX7_advice_8 : decode cX7_advice 8 = .ok (.iload_n 2, 1) := by decide +kernel
theorem dX7_advice_9 : decode cX7_advice 9 = .ok (.iconst 0, 1) := by decide +kernel
theorem dX7_advice_10 : decode cX7_advice 10 = .ok (.iconst 4, 1) := by decide +kernel
theorem dX7_advice_11 : decode cX7_advice 11 = .ok (.invokestatic 62, 3) := by decide +kernel
theorem dX7_advice_14 : decode cX7_advice 14 = .ok (.ifCond .eq 22, 3) := by decide +kernel
theorem dX7_advice_17 : decode cX7_advice 17 = .ok (.aload_n 0, 1) := by decide +kernel
theorem dX7_advice_18 : decode cX7_advice 18 = .ok (.getfield 25, 3) := by decide +kernel
theorem dX7_advice_21 : decode cX7_advice 21 = .ok (.bipush 62, 2) := by decide +kernel
theorem dX7_advice_23 : decode cX7_advice 23 = .ok (.bipush 6, 2) := by decide +kernel
theorem dX7_advice_25 : decode cX7_advice 25 = .ok (.iload_n 1, 1) := by decide +kernel
theorem dX7_advice_26 : decode cX7_advice 26 = .ok (.imul, 1) := by decide +kernel
theorem dX7_advice_27 : decode cX7_advice 27 = .ok (.iadd, 1) := by decide +kernel
theorem dX7_advice_28 : decode cX7_advice 28 = .ok (.iconst 1, 1) := by decide +kernel
theorem dX7_advice_29 : decode cX7_advice 29 = .ok (.iadd, 1) := by decide +kernel
theorem dX7_advice_30 : decode cX7_advice 30 = .ok (.iload_n 2, 1) := by decide +kernel
theorem dX7_advice_31 : decode cX7_advice 31 = .ok (.iadd, 1) := by decide +kernel
theorem dX7_advice_32 : decode cX7_advice 32 = .ok (.iaload, 1) := by decide +kernel
theorem dX7_advice_33 : decode cX7_advice 33 = .ok (.goto 5, 3) := by decide +kernel
theorem dX7_advice_36 : decode cX7_advice 36 = .ok (.ldc 70, 2) := by decide +kernel
theorem dX7_advice_38 : decode cX7_advice 38 = .ok (.ireturn, 1) := by decide +kernel
theorem dX7_ahead_0 : decode cX7_ahead 0 = .ok (.aload_n 0, 1) := by decide +kernel
theorem dX7_ahead_1 : decode cX7_ahead 1 = .ok (.iload_n 1, 1) := by decide +kernel
theorem dX7_ahead_2 : decode cX7_ahead 2 = .ok (.invokevirtual 242, 3) := by decide +kernel
theorem dX7_ahead_5 : decode cX7_ahead 5 = .ok (.ifCond .eq 23, 3) := by decide +kernel
theorem dX7_ahead_8 : decode cX7_ahead 8 = .ok (.aload_n 0, 1) := by decide +kernel
theorem dX7_ahead_9 : decode cX7_ahead 9 = .ok (.iload_n 2, 1) := by decide +kernel
theorem dX7_ahead_10 : decode cX7_ahead 10 = .ok (.invokevirtual 232, 3) := by decide +kernel
theorem dX7_ahead_13 : decode cX7_ahead 13 = .ok (.ifCond .eq 15, 3) := by decide +kernel
theorem dX7_ahead_16 : decode cX7_ahead 16 = .ok (.aload_n 0, 1) := by decide +kernel
theorem dX7_ahead_17 : decode cX7_ahead 17 = .ok (.getfield 25, 3) := by decide +kernel
theorem dX7_ahead_20 : decode cX7_ahead 20 = .ok (.iload_n 1, 1) := by decide +kernel
theorem dX7_ahead_21 : decode cX7_ahead 21 = .ok (.iload_n 2, 1) := by decide +kernel
theorem dX7_ahead_22 : decode cX7_ahead 22 = .ok (.invokestatic 196, 3) := by decide +kernel
theorem dX7_ahead_25 : decode cX7_ahead 25 = .ok (.goto 5, 3) := by decide +kernel
theorem dX7_ahead_28 : decode cX7_ahead 28 = .ok (.ldc 70, 2) := by decide +kernel
theorem dX7_ahead_30 : decode cX7_ahead 30 = .ok (.ireturn, 1) := by decide +kernel
theorem dX7_run_0 : decode cX7_run 0 = .ok (.aload_n 0, 1) := by decide +kernel
theorem dX7_run_1 : decode cX7_run 1 = .ok (.iload_n 1, 1) := by decide +kernel
theorem dX7_run_2 : decode cX7_run 2 = .ok (.invokevirtual 242, 3) := by decide +kernel
theorem dX7_run_5 : decode cX7_run 5 = .ok (.ifCond .eq 19, 3) := by decide +kernel
theorem dX7_run_8 : decode cX7_run 8 = .ok (.iload_n 2, 1) := by decide +kernel
theorem dX7_run_9 : decode cX7_run 9 = .ok (.iconst 0, 1) := by decide +kernel
theorem dX7_run_10 : decode cX7_run 10 = .ok (.bipush 9, 2) := by decide +kernel
theorem dX7_run_12 : decode cX7_run 12 = .ok (.invokestatic 62, 3) := by decide +kernel
theorem dX7_run_15 : decode cX7_run 15 = .ok (.ifCond .eq 9, 3) := by decide +kernel
theorem dX7_run_18 : decode cX7_run 18 = .ok (.iload_n 3, 1) := by decide +kernel
theorem dX7_run_19 : decode cX7_run 19 = .ok (.bipush (-5), 2) := by decide +kernel
theorem dX7_run_21 : decode cX7_run 21 = .ok (.if_icmp .ge 6, 3) := by decide +kernel
theorem dX7_run_24 : decode cX7_run 24 = .ok (.ldc 70, 2) := by decide +kernel
theorem dX7_run_26 : decode cX7_run 26 = .ok (.ireturn, 1) := by decide +kernel
theorem dX7_run_27 : decode cX7_run 27 = .ok (.aload_n 0, 1) := by decide +kernel
theorem dX7_run_28 : decode cX7_run 28 = .ok (.aload_n 0, 1) := by decide +kernel
theorem dX7_run_29 : decode cX7_run 29 = .ok (.getfield 25, 3) := by decide +kernel
theorem dX7_run_32 : decode cX7_run 32 = .ok (.iload_n 1, 1) := by decide +kernel
theorem dX7_run_33 : decode cX7_run 33 = .ok (.iload_n 2, 1) := by decide +kernel
theorem dX7_run_34 : decode cX7_run 34 = .ok (.invokevirtual 245, 3) := by decide +kernel
theorem dX7_run_37 : decode cX7_run 37 = .ok (.aload_n 0, 1) := by decide +kernel
theorem dX7_run_38 : decode cX7_run 38 = .ok (.getfield 179, 3) := by decide +kernel
theorem dX7_run_41 : decode cX7_run 41 = .ok (.ifCond .eq 6, 3) := by decide +kernel
theorem dX7_run_44 : decode cX7_run 44 = .ok (.ldc 91, 2) := by decide +kernel
theorem dX7_run_46 : decode cX7_run 46 = .ok (.ireturn, 1) := by decide +kernel
theorem dX7_run_47 : decode cX7_run 47 = .ok (.iload_n 3, 1) := by decide +kernel
theorem dX7_run_48 : decode cX7_run 48 = .ok (.tableswitch 73 (-5) (-1) #[68, 63, 46, 41, 36], 36) := by decide +kernel
theorem dX7_run_84 : decode cX7_run 84 = .ok (.aload_n 0, 1) := by decide +kernel
theorem dX7_run_85 : decode cX7_run 85 = .ok (.getfield 176, 3) := by decide +kernel
theorem dX7_run_88 : decode cX7_run 88 = .ok (.ireturn, 1) := by decide +kernel
theorem dX7_run_89 : decode cX7_run 89 = .ok (.aload_n 0, 1) := by decide +kernel
theorem dX7_run_90 : decode cX7_run 90 = .ok (.getfield 204, 3) := by decide +kernel
theorem dX7_run_93 : decode cX7_run 93 = .ok (.ireturn, 1) := by decide +kernel
theorem dX7_run_94 : decode cX7_run 94 = .ok (.aload_n 0, 1) := by decide +kernel
theorem dX7_run_95 : decode cX7_run 95 = .ok (.getfield 204, 3) := by decide +kernel
theorem dX7_run_98 : decode cX7_run 98 = .ok (.ifCond .le 8, 3) := by decide +kernel
theorem dX7_run_101 : decode cX7_run 101 = .ok (.ldc 56, 2) := by decide +kernel
theorem dX7_run_103 : decode cX7_run 103 = .ok (.goto 7, 3) := by decide +kernel
theorem dX7_run_106 : decode cX7_run 106 = .ok (.aload_n 0, 1) := by decide +kernel
theorem dX7_run_107 : decode cX7_run 107 = .ok (.getfield 207, 3) := by decide +kernel
theorem dX7_run_110 : decode cX7_run 110 = .ok (.ireturn, 1) := by decide +kernel
theorem dX7_run_111 : decode cX7_run 111 = .ok (.aload_n 0, 1) := by decide +kernel
theorem dX7_run_112 : decode cX7_run 112 = .ok (.getfield 190, 3) := by decide +kernel
theorem dX7_run_115 : decode cX7_run 115 = .ok (.ireturn, 1) := by decide +kernel
theorem dX7_run_116 : decode cX7_run 116 = .ok (.aload_n 0, 1) := by decide +kernel
theorem dX7_run_117 : decode cX7_run 117 = .ok (.getfield 193, 3) := by decide +kernel
theorem dX7_run_120 : decode cX7_run 120 = .ok (.ireturn, 1) := by decide +kernel
theorem dX7_run_121 : decode cX7_run 121 = .ok (.iload_n 3, 1) := by decide +kernel
theorem dX7_run_122 : decode cX7_run 122 = .ok (.aload_n 0, 1) := by decide +kernel
theorem dX7_run_123 : decode cX7_run 123 = .ok (.getfield 176, 3) := by decide +kernel
theorem dX7_run_126 : decode cX7_run 126 = .ok (.if_icmp .ge 12, 3) := by decide +kernel
theorem dX7_run_129 : decode cX7_run 129 = .ok (.aload_n 0, 1) := by decide +kernel
theorem dX7_run_130 : decode cX7_run 130 = .ok (.getfield 50, 3) := by decide +kernel
theorem dX7_run_133 : decode cX7_run 133 = .ok (.iload_n 3, 1) := by decide +kernel
theorem dX7_run_134 : decode cX7_run 134 = .ok (.iaload, 1) := by decide +kernel
theorem dX7_run_135 : decode cX7_run 135 = .ok (.goto 5, 3) := by decide +kernel
theorem dX7_run_138 : decode cX7_run 138 = .ok (.ldc 56, 2) := by decide +kernel
theorem dX7_run_140 : decode cX7_run 140 = .ok (.ireturn, 1) := by decide +kernel
theorem dX7_least_0 : decode cX7_least 0 = .ok (.aload_n 0, 1) := by decide +kernel
theorem dX7_least_1 : decode cX7_least 1 = .ok (.iload_n 1, 1) := by decide +kernel
theorem dX7_least_2 : decode cX7_least 2 = .ok (.invokevirtual 242, 3) := by decide +kernel
theorem dX7_least_5 : decode cX7_least 5 = .ok (.ifCond .ne 6, 3) := by decide +kernel
theorem dX7_least_8 : decode cX7_least 8 = .ok (.ldc 70, 2) := by decide +kernel
theorem dX7_least_10 : decode cX7_least 10 = .ok (.ireturn, 1) := by decide +kernel
theorem dX7_least_11 : decode cX7_least 11 = .ok (.iconst 0, 1) := by decide +kernel
theorem dX7_least_12 : decode cX7_least 12 = .ok (.istore_n 2, 1) := by decide +kernel
theorem dX7_least_13 : decode cX7_least 13 = .ok (.iload_n 2, 1) := by decide +kernel
theorem dX7_least_14 : decode cX7_least 14 = .ok (.bipush 10, 2) := by decide +kernel
theorem dX7_least_16 : decode cX7_least 16 = .ok (.if_icmp .ge 35, 3) := by decide +kernel
theorem dX7_least_19 : decode cX7_least 19 = .ok (.aload_n 0, 1) := by decide +kernel
theorem dX7_least_20 : decode cX7_least 20 = .ok (.aload_n 0, 1) := by decide +kernel
theorem dX7_least_21 : decode cX7_least 21 = .ok (.getfield 25, 3) := by decide +kernel
theorem dX7_least_24 : decode cX7_least 24 = .ok (.iload_n 1, 1) := by decide +kernel
theorem dX7_least_25 : decode cX7_least 25 = .ok (.iload_n 2, 1) := by decide +kernel
theorem dX7_least_26 : decode cX7_least 26 = .ok (.invokevirtual 245, 3) := by decide +kernel
theorem dX7_least_29 : decode cX7_least 29 = .ok (.aload_n 0, 1) := by decide +kernel
theorem dX7_least_30 : decode cX7_least 30 = .ok (.getfield 179, 3) := by decide +kernel
theorem dX7_least_33 : decode cX7_least 33 = .ok (.ifCond .ne 12, 3) := by decide +kernel
theorem dX7_least_36 : decode cX7_least 36 = .ok (.aload_n 0, 1) := by decide +kernel
theorem dX7_least_37 : decode cX7_least 37 = .ok (.getfield 204, 3) := by decide +kernel
theorem dX7_least_40 : decode cX7_least 40 = .ok (.ifCond .le 5, 3) := by decide +kernel
theorem dX7_least_43 : decode cX7_least 43 = .ok (.iload_n 2, 1) := by decide +kernel
theorem dX7_least_44 : decode cX7_least 44 = .ok (.ireturn, 1) := by decide +kernel
theorem dX7_least_45 : decode cX7_least 45 = .ok (.iinc 2 1, 3) := by decide +kernel
theorem dX7_least_48 : decode cX7_least 48 = .ok (.goto (-35), 3) := by decide +kernel
theorem dX7_least_51 : decode cX7_least 51 = .ok (.ldc 56, 2) := by decide +kernel
theorem dX7_least_53 : decode cX7_least 53 = .ok (.ireturn, 1) := by decide +kernel
theorem dX7_needed_0 : decode cX7_needed 0 = .ok (.aload_n 0, 1) := by decide +kernel
theorem dX7_needed_1 : decode cX7_needed 1 = .ok (.iload_n 1, 1) := by decide +kernel
theorem dX7_needed_2 : decode cX7_needed 2 = .ok (.invokevirtual 242, 3) := by decide +kernel
theorem dX7_needed_5 : decode cX7_needed 5 = .ok (.ifCond .eq 13, 3) := by decide +kernel
theorem dX7_needed_8 : decode cX7_needed 8 = .ok (.iload_n 2, 1) := by decide +kernel
theorem dX7_needed_9 : decode cX7_needed 9 = .ok (.iconst 0, 1) := by decide +kernel
theorem dX7_needed_10 : decode cX7_needed 10 = .ok (.bipush 9, 2) := by decide +kernel
theorem dX7_needed_12 : decode cX7_needed 12 = .ok (.invokestatic 62, 3) := by decide +kernel
theorem dX7_needed_15 : decode cX7_needed 15 = .ok (.ifCond .ne 6, 3) := by decide +kernel
theorem dX7_needed_18 : decode cX7_needed 18 = .ok (.ldc 70, 2) := by decide +kernel
theorem dX7_needed_20 : decode cX7_needed 20 = .ok (.ireturn, 1) := by decide +kernel
theorem dX7_needed_21 : decode cX7_needed 21 = .ok (.aload_n 0, 1) := by decide +kernel
theorem dX7_needed_22 : decode cX7_needed 22 = .ok (.aload_n 0, 1) := by decide +kernel
theorem dX7_needed_23 : decode cX7_needed 23 = .ok (.getfield 25, 3) := by decide +kernel
theorem dX7_needed_26 : decode cX7_needed 26 = .ok (.iload_n 1, 1) := by decide +kernel
theorem dX7_needed_27 : decode cX7_needed 27 = .ok (.iload_n 2, 1) := by decide +kernel
theorem dX7_needed_28 : decode cX7_needed 28 = .ok (.invokevirtual 245, 3) := by decide +kernel
theorem dX7_needed_31 : decode cX7_needed 31 = .ok (.aload_n 0, 1) := by decide +kernel
theorem dX7_needed_32 : decode cX7_needed 32 = .ok (.getfield 179, 3) := by decide +kernel
theorem dX7_needed_35 : decode cX7_needed 35 = .ok (.ifCond .eq 6, 3) := by decide +kernel
theorem dX7_needed_38 : decode cX7_needed 38 = .ok (.ldc 91, 2) := by decide +kernel
theorem dX7_needed_40 : decode cX7_needed 40 = .ok (.ireturn, 1) := by decide +kernel
theorem dX7_needed_41 : decode cX7_needed 41 = .ok (.aload_n 0, 1) := by decide +kernel
theorem dX7_needed_42 : decode cX7_needed 42 = .ok (.getfield 176, 3) := by decide +kernel
theorem dX7_needed_45 : decode cX7_needed 45 = .ok (.istore_n 3, 1) := by decide +kernel
theorem dX7_needed_46 : decode cX7_needed 46 = .ok (.aload_n 0, 1) := by decide +kernel
theorem dX7_needed_47 : decode cX7_needed 47 = .ok (.getfield 204, 3) := by decide +kernel
theorem dX7_needed_50 : decode cX7_needed 50 = .ok (.istore 4, 2) := by decide +kernel
theorem dX7_needed_52 : decode cX7_needed 52 = .ok (.aload_n 0, 1) := by decide +kernel
theorem dX7_needed_53 : decode cX7_needed 53 = .ok (.getfield 207, 3) := by decide +kernel
theorem dX7_needed_56 : decode cX7_needed 56 = .ok (.istore 5, 2) := by decide +kernel
theorem dX7_needed_58 : decode cX7_needed 58 = .ok (.iconst 0, 1) := by decide +kernel
theorem dX7_needed_59 : decode cX7_needed 59 = .ok (.istore 6, 2) := by decide +kernel
theorem dX7_needed_61 : decode cX7_needed 61 = .ok (.iconst 0, 1) := by decide +kernel
theorem dX7_needed_62 : decode cX7_needed 62 = .ok (.istore 7, 2) := by decide +kernel
theorem dX7_needed_64 : decode cX7_needed 64 = .ok (.iload 7, 2) := by decide +kernel
theorem dX7_needed_66 : decode cX7_needed 66 = .ok (.aload_n 0, 1) := by decide +kernel
theorem dX7_needed_67 : decode cX7_needed 67 = .ok (.getfield 25, 3) := by decide +kernel
theorem dX7_needed_70 : decode cX7_needed 70 = .ok (.iconst 1, 1) := by decide +kernel
theorem dX7_needed_71 : decode cX7_needed 71 = .ok (.iaload, 1) := by decide +kernel
theorem dX7_needed_72 : decode cX7_needed 72 = .ok (.if_icmp .ge 94, 3) := by decide +kernel
theorem dX7_needed_75 : decode cX7_needed 75 = .ok (.aload_n 0, 1) := by decide +kernel
theorem dX7_needed_76 : decode cX7_needed 76 = .ok (.getfield 25, 3) := by decide +kernel
theorem dX7_needed_79 : decode cX7_needed 79 = .ok (.iconst 0, 1) := by decide +kernel
theorem dX7_needed_80 : decode cX7_needed 80 = .ok (.aload_n 0, 1) := by decide +kernel
theorem dX7_needed_81 : decode cX7_needed 81 = .ok (.getfield 31, 3) := by decide +kernel
theorem dX7_needed_84 : decode cX7_needed 84 = .ok (.iconst 0, 1) := by decide +kernel
theorem dX7_needed_85 : decode cX7_needed 85 = .ok (.invokestatic 151, 3) := by decide +kernel
theorem dX7_needed_88 : decode cX7_needed 88 = .ok (.aload_n 0, 1) := by decide +kernel
theorem dX7_needed_89 : decode cX7_needed 89 = .ok (.getfield 31, 3) := by decide +kernel
theorem dX7_needed_92 : decode cX7_needed 92 = .ok (.bipush 62, 2) := by decide +kernel
theorem dX7_needed_94 : decode cX7_needed 94 = .ok (.bipush 6, 2) := by decide +kernel
theorem dX7_needed_96 : decode cX7_needed 96 = .ok (.iload 7, 2) := by decide +kernel
theorem dX7_needed_98 : decode cX7_needed 98 = .ok (.imul, 1) := by decide +kernel
theorem dX7_needed_99 : decode cX7_needed 99 = .ok (.iadd, 1) := by decide +kernel
theorem dX7_needed_100 : decode cX7_needed 100 = .ok (.iconst 4, 1) := by decide +kernel
theorem dX7_needed_101 : decode cX7_needed 101 = .ok (.iadd, 1) := by decide +kernel
theorem dX7_needed_102 : decode cX7_needed 102 = .ok (.iconst 0, 1) := by decide +kernel
theorem dX7_needed_103 : decode cX7_needed 103 = .ok (.iastore, 1) := by decide +kernel
theorem dX7_needed_104 : decode cX7_needed 104 = .ok (.aload_n 0, 1) := by decide +kernel
theorem dX7_needed_105 : decode cX7_needed 105 = .ok (.aload_n 0, 1) := by decide +kernel
theorem dX7_needed_106 : decode cX7_needed 106 = .ok (.getfield 31, 3) := by decide +kernel
theorem dX7_needed_109 : decode cX7_needed 109 = .ok (.iload_n 1, 1) := by decide +kernel
theorem dX7_needed_110 : decode cX7_needed 110 = .ok (.iload_n 2, 1) := by decide +kernel
theorem dX7_needed_111 : decode cX7_needed 111 = .ok (.invokevirtual 245, 3) := by decide +kernel
theorem dX7_needed_114 : decode cX7_needed 114 = .ok (.iload 6, 2) := by decide +kernel
theorem dX7_needed_116 : decode cX7_needed 116 = .ok (.aload_n 0, 1) := by decide +kernel
theorem dX7_needed_117 : decode cX7_needed 117 = .ok (.getfield 179, 3) := by decide +kernel
theorem dX7_needed_120 : decode cX7_needed 120 = .ok (.ifCond .ne 29, 3) := by decide +kernel
theorem dX7_needed_123 : decode cX7_needed 123 = .ok (.iload_n 3, 1) := by decide +kernel
theorem dX7_needed_124 : decode cX7_needed 124 = .ok (.aload_n 0, 1) := by decide +kernel
theorem dX7_needed_125 : decode cX7_needed 125 = .ok (.getfield 176, 3) := by decide +kernel
theorem dX7_needed_128 : decode cX7_needed 128 = .ok (.if_icmp .ne 21, 3) := by decide +kernel
theorem dX7_needed_131 : decode cX7_needed 131 = .ok (.iload 4, 2) := by decide +kernel
theorem dX7_needed_133 : decode cX7_needed 133 = .ok (.aload_n 0, 1) := by decide +kernel
theorem dX7_needed_134 : decode cX7_needed 134 = .ok (.getfield 204, 3) := by decide +kernel
theorem dX7_needed_137 : decode cX7_needed 137 = .ok (.if_icmp .ne 12, 3) := by decide +kernel
theorem dX7_needed_140 : decode cX7_needed 140 = .ok (.iload 5, 2) := by decide +kernel
theorem dX7_needed_142 : decode cX7_needed 142 = .ok (.aload_n 0, 1) := by decide +kernel
theorem dX7_needed_143 : decode cX7_needed 143 = .ok (.getfield 207, 3) := by decide +kernel
theorem dX7_needed_146 : decode cX7_needed 146 = .ok (.if_icmp .eq 10, 3) := by decide +kernel
theorem dX7_needed_149 : decode cX7_needed 149 = .ok (.iconst 1, 1) := by decide +kernel
theorem dX7_needed_150 : decode cX7_needed 150 = .ok (.iload 7, 2) := by decide +kernel
theorem dX7_needed_152 : decode cX7_needed 152 = .ok (.ishl, 1) := by decide +kernel
theorem dX7_needed_153 : decode cX7_needed 153 = .ok (.goto 4, 3) := by decide +kernel
theorem dX7_needed_156 : decode cX7_needed 156 = .ok (.iconst 0, 1) := by decide +kernel
theorem dX7_needed_157 : decode cX7_needed 157 = .ok (.ior, 1) := by decide +kernel
theorem dX7_needed_158 : decode cX7_needed 158 = .ok (.istore 6, 2) := by decide +kernel
theorem dX7_needed_160 : decode cX7_needed 160 = .ok (.iinc 7 1, 3) := by decide +kernel
theorem dX7_needed_163 : decode cX7_needed 163 = .ok (.goto (-99), 3) := by decide +kernel
theorem dX7_needed_166 : decode cX7_needed 166 = .ok (.iload 6, 2) := by decide +kernel
theorem dX7_needed_168 : decode cX7_needed 168 = .ok (.ireturn, 1) := by decide +kernel
theorem dX7_isSeen_0 : decode cX7_isSeen 0 = .ok (.aload_n 0, 1) := by decide +kernel
theorem dX7_isSeen_1 : decode cX7_isSeen 1 = .ok (.aload_n 0, 1) := by decide +kernel
theorem dX7_isSeen_2 : decode cX7_isSeen 2 = .ok (.getfield 31, 3) := by decide +kernel
theorem dX7_isSeen_5 : decode cX7_isSeen 5 = .ok (.iload_n 1, 1) := by decide +kernel
theorem dX7_isSeen_6 : decode cX7_isSeen 6 = .ok (.iload_n 2, 1) := by decide +kernel
theorem dX7_isSeen_7 : decode cX7_isSeen 7 = .ok (.invokevirtual 245, 3) := by decide +kernel
theorem dX7_isSeen_10 : decode cX7_isSeen 10 = .ok (.aload_n 0, 1) := by decide +kernel
theorem dX7_isSeen_11 : decode cX7_isSeen 11 = .ok (.getfield 179, 3) := by decide +kernel
theorem dX7_isSeen_14 : decode cX7_isSeen 14 = .ok (.ifCond .ne 20, 3) := by decide +kernel
theorem dX7_isSeen_17 : decode cX7_isSeen 17 = .ok (.aload_n 0, 1) := by decide +kernel
theorem dX7_isSeen_18 : decode cX7_isSeen 18 = .ok (.getfield 176, 3) := by decide +kernel
theorem dX7_isSeen_21 : decode cX7_isSeen 21 = .ok (.aload_n 0, 1) := by decide +kernel
theorem dX7_isSeen_22 : decode cX7_isSeen 22 = .ok (.getfield 13, 3) := by decide +kernel
theorem dX7_isSeen_25 : decode cX7_isSeen 25 = .ok (.iload_n 3, 1) := by decide +kernel
theorem dX7_isSeen_26 : decode cX7_isSeen 26 = .ok (.iaload, 1) := by decide +kernel
theorem dX7_isSeen_27 : decode cX7_isSeen 27 = .ok (.if_icmp .lt 7, 3) := by decide +kernel
theorem dX7_isSeen_30 : decode cX7_isSeen 30 = .ok (.iconst 1, 1) := by decide +kernel
theorem dX7_isSeen_31 : decode cX7_isSeen 31 = .ok (.goto 4, 3) := by decide +kernel
theorem dX7_isSeen_34 : decode cX7_isSeen 34 = .ok (.iconst 0, 1) := by decide +kernel
theorem dX7_isSeen_35 : decode cX7_isSeen 35 = .ok (.istore 4, 2) := by decide +kernel
theorem dX7_isSeen_37 : decode cX7_isSeen 37 = .ok (.iconst 0, 1) := by decide +kernel
theorem dX7_isSeen_38 : decode cX7_isSeen 38 = .ok (.istore 5, 2) := by decide +kernel
theorem dX7_isSeen_40 : decode cX7_isSeen 40 = .ok (.iload 5, 2) := by decide +kernel
theorem dX7_isSeen_42 : decode cX7_isSeen 42 = .ok (.aload_n 0, 1) := by decide +kernel
theorem dX7_isSeen_43 : decode cX7_isSeen 43 = .ok (.getfield 13, 3) := by decide +kernel
theorem dX7_isSeen_46 : decode cX7_isSeen 46 = .ok (.iload_n 3, 1) := by decide +kernel
theorem dX7_isSeen_47 : decode cX7_isSeen 47 = .ok (.iaload, 1) := by decide +kernel
theorem dX7_isSeen_48 : decode cX7_isSeen 48 = .ok (.if_icmp .ge 43, 3) := by decide +kernel
theorem dX7_isSeen_51 : decode cX7_isSeen 51 = .ok (.iload 4, 2) := by decide +kernel
theorem dX7_isSeen_53 : decode cX7_isSeen 53 = .ok (.ifCond .eq 38, 3) := by decide +kernel
theorem dX7_isSeen_56 : decode cX7_isSeen 56 = .ok (.aload_n 0, 1) := by decide +kernel
theorem dX7_isSeen_57 : decode cX7_isSeen 57 = .ok (.getfield 50, 3) := by decide +kernel
theorem dX7_isSeen_60 : decode cX7_isSeen 60 = .ok (.iload 5, 2) := by decide +kernel
theorem dX7_isSeen_62 : decode cX7_isSeen 62 = .ok (.iaload, 1) := by decide +kernel
theorem dX7_isSeen_63 : decode cX7_isSeen 63 = .ok (.aload_n 0, 1) := by decide +kernel
theorem dX7_isSeen_64 : decode cX7_isSeen 64 = .ok (.getfield 16, 3) := by decide +kernel
theorem dX7_isSeen_67 : decode cX7_isSeen 67 = .ok (.bipush 40, 2) := by decide +kernel
theorem dX7_isSeen_69 : decode cX7_isSeen 69 = .ok (.iload_n 3, 1) := by decide +kernel
theorem dX7_isSeen_70 : decode cX7_isSeen 70 = .ok (.imul, 1) := by decide +kernel
theorem dX7_isSeen_71 : decode cX7_isSeen 71 = .ok (.iload 5, 2) := by decide +kernel
theorem dX7_isSeen_73 : decode cX7_isSeen 73 = .ok (.iadd, 1) := by decide +kernel
theorem dX7_isSeen_74 : decode cX7_isSeen 74 = .ok (.iaload, 1) := by decide +kernel
theorem dX7_isSeen_75 : decode cX7_isSeen 75 = .ok (.if_icmp .ne 7, 3) := by decide +kernel
theorem dX7_isSeen_78 : decode cX7_isSeen 78 = .ok (.iconst 1, 1) := by decide +kernel
theorem dX7_isSeen_79 : decode cX7_isSeen 79 = .ok (.goto 4, 3) := by decide +kernel
theorem dX7_isSeen_82 : decode cX7_isSeen 82 = .ok (.iconst 0, 1) := by decide +kernel
theorem dX7_isSeen_83 : decode cX7_isSeen 83 = .ok (.istore 4, 2) := by decide +kernel
theorem dX7_isSeen_85 : decode cX7_isSeen 85 = .ok (.iinc 5 1, 3) := by decide +kernel
theorem dX7_isSeen_88 : decode cX7_isSeen 88 = .ok (.goto (-48), 3) := by decide +kernel
theorem dX7_isSeen_91 : decode cX7_isSeen 91 = .ok (.iload 4, 2) := by decide +kernel
theorem dX7_isSeen_93 : decode cX7_isSeen 93 = .ok (.ireturn, 1) := by decide +kernel
theorem dX7_fits_0 : decode cX7_fits 0 = .ok (.aload_n 0, 1) := by decide +kernel
theorem dX7_fits_1 : decode cX7_fits 1 = .ok (.iload_n 1, 1) := by decide +kernel
theorem dX7_fits_2 : decode cX7_fits 2 = .ok (.invokevirtual 232, 3) := by decide +kernel
theorem dX7_fits_5 : decode cX7_fits 5 = .ok (.ifCond .eq 39, 3) := by decide +kernel
theorem dX7_fits_8 : decode cX7_fits 8 = .ok (.aload_n 0, 1) := by decide +kernel
theorem dX7_fits_9 : decode cX7_fits 9 = .ok (.iload_n 2, 1) := by decide +kernel
theorem dX7_fits_10 : decode cX7_fits 10 = .ok (.invokevirtual 242, 3) := by decide +kernel
theorem dX7_fits_13 : decode cX7_fits 13 = .ok (.ifCond .eq 31, 3) := by decide +kernel
theorem dX7_fits_16 : decode cX7_fits 16 = .ok (.iload_n 3, 1) := by decide +kernel
end
section
theorem dX7_fits_17 : decode cX7_fits 17 = .ok (.iconst 0, 1) := by decide +kernel
theorem dX7_fits_18 : decode cX7_fits 18 = .ok (.bipush 9, 2) := by decide +kernel
theorem dX7_fits_20 : decode cX7_fits 20 = .ok (.invokestatic 62, 3) := by decide +kernel
theorem dX7_fits_23 : decode cX7_fits 23 = .ok (.ifCond .eq 21, 3) := by decide +kernel
theorem dX7_fits_26 : decode cX7_fits 26 = .ok (.iload 4, 2) := by decide +kernel
theorem dX7_fits_28 : decode cX7_fits 28 = .ok (.invokestatic 66, 3) := by decide +kernel
theorem dX7_fits_31 : decode cX7_fits 31 = .ok (.ifCond .eq 13, 3) := by decide +kernel
theorem dX7_fits_34 : decode cX7_fits 34 = .ok (.iload 5, 2) := by decide +kernel
theorem dX7_fits_36 : decode cX7_fits 36 = .ok (.iconst 0, 1) := by decide +kernel
theorem dX7_fits_37 : decode cX7_fits 37 = .ok (.iconst 2, 1) := by decide +kernel
theorem dX7_fits_38 : decode cX7_fits 38 = .ok (.invokestatic 62, 3) := by decide +kernel
theorem dX7_fits_41 : decode cX7_fits 41 = .ok (.ifCond .ne 6, 3) := by decide +kernel
theorem dX7_fits_44 : decode cX7_fits 44 = .ok (.ldc 70, 2) := by decide +kernel
theorem dX7_fits_46 : decode cX7_fits 46 = .ok (.ireturn, 1) := by decide +kernel
theorem dX7_fits_47 : decode cX7_fits 47 = .ok (.aload_n 0, 1) := by decide +kernel
theorem dX7_fits_48 : decode cX7_fits 48 = .ok (.iload 4, 2) := by decide +kernel
theorem dX7_fits_50 : decode cX7_fits 50 = .ok (.invokevirtual 78, 3) := by decide +kernel
theorem dX7_fits_53 : decode cX7_fits 53 = .ok (.ifCond .eq 9, 3) := by decide +kernel
theorem dX7_fits_56 : decode cX7_fits 56 = .ok (.aload_n 0, 1) := by decide +kernel
theorem dX7_fits_57 : decode cX7_fits 57 = .ok (.iconst 1, 1) := by decide +kernel
theorem dX7_fits_58 : decode cX7_fits 58 = .ok (.invokevirtual 71, 3) := by decide +kernel
theorem dX7_fits_61 : decode cX7_fits 61 = .ok (.ireturn, 1) := by decide +kernel
theorem dX7_fits_62 : decode cX7_fits 62 = .ok (.aload_n 0, 1) := by decide +kernel
theorem dX7_fits_63 : decode cX7_fits 63 = .ok (.getfield 13, 3) := by decide +kernel
theorem dX7_fits_66 : decode cX7_fits 66 = .ok (.iload 4, 2) := by decide +kernel
theorem dX7_fits_68 : decode cX7_fits 68 = .ok (.iaload, 1) := by decide +kernel
theorem dX7_fits_69 : decode cX7_fits 69 = .ok (.ifCond .ne 9, 3) := by decide +kernel
theorem dX7_fits_72 : decode cX7_fits 72 = .ok (.aload_n 0, 1) := by decide +kernel
theorem dX7_fits_73 : decode cX7_fits 73 = .ok (.iconst 2, 1) := by decide +kernel
theorem dX7_fits_74 : decode cX7_fits 74 = .ok (.invokevirtual 71, 3) := by decide +kernel
theorem dX7_fits_77 : decode cX7_fits 77 = .ok (.ireturn, 1) := by decide +kernel
theorem dX7_fits_78 : decode cX7_fits 78 = .ok (.iconst 0, 1) := by decide +kernel
theorem dX7_fits_79 : decode cX7_fits 79 = .ok (.istore 6, 2) := by decide +kernel
theorem dX7_fits_81 : decode cX7_fits 81 = .ok (.iload 5, 2) := by decide +kernel
theorem dX7_fits_83 : decode cX7_fits 83 = .ok (.ifCond .ne 7, 3) := by decide +kernel
theorem dX7_fits_86 : decode cX7_fits 86 = .ok (.iconst 1, 1) := by decide +kernel
theorem dX7_fits_87 : decode cX7_fits 87 = .ok (.goto 4, 3) := by decide +kernel
theorem dX7_fits_90 : decode cX7_fits 90 = .ok (.iconst 0, 1) := by decide +kernel
theorem dX7_fits_91 : decode cX7_fits 91 = .ok (.istore 7, 2) := by decide +kernel
theorem dX7_fits_93 : decode cX7_fits 93 = .ok (.iload 7, 2) := by decide +kernel
theorem dX7_fits_95 : decode cX7_fits 95 = .ok (.iload 5, 2) := by decide +kernel
theorem dX7_fits_97 : decode cX7_fits 97 = .ok (.ifCond .ne 7, 3) := by decide +kernel
theorem dX7_fits_100 : decode cX7_fits 100 = .ok (.iconst 5, 1) := by decide +kernel
theorem dX7_fits_101 : decode cX7_fits 101 = .ok (.goto 22, 3) := by decide +kernel
theorem dX7_fits_104 : decode cX7_fits 104 = .ok (.iload 5, 2) := by decide +kernel
theorem dX7_fits_106 : decode cX7_fits 106 = .ok (.iconst 1, 1) := by decide +kernel
theorem dX7_fits_107 : decode cX7_fits 107 = .ok (.if_icmp .ne 8, 3) := by decide +kernel
theorem dX7_fits_110 : decode cX7_fits 110 = .ok (.bipush 10, 2) := by decide +kernel
theorem dX7_fits_112 : decode cX7_fits 112 = .ok (.goto 11, 3) := by decide +kernel
theorem dX7_fits_115 : decode cX7_fits 115 = .ok (.aload_n 0, 1) := by decide +kernel
theorem dX7_fits_116 : decode cX7_fits 116 = .ok (.getfield 25, 3) := by decide +kernel
theorem dX7_fits_119 : decode cX7_fits 119 = .ok (.iconst 1, 1) := by decide +kernel
theorem dX7_fits_120 : decode cX7_fits 120 = .ok (.iaload, 1) := by decide +kernel
theorem dX7_fits_121 : decode cX7_fits 121 = .ok (.iconst 1, 1) := by decide +kernel
theorem dX7_fits_122 : decode cX7_fits 122 = .ok (.isub, 1) := by decide +kernel
theorem dX7_fits_123 : decode cX7_fits 123 = .ok (.if_icmp .gt 90, 3) := by decide +kernel
theorem dX7_fits_126 : decode cX7_fits 126 = .ok (.aload_n 0, 1) := by decide +kernel
theorem dX7_fits_127 : decode cX7_fits 127 = .ok (.getfield 25, 3) := by decide +kernel
theorem dX7_fits_130 : decode cX7_fits 130 = .ok (.iconst 0, 1) := by decide +kernel
theorem dX7_fits_131 : decode cX7_fits 131 = .ok (.aload_n 0, 1) := by decide +kernel
theorem dX7_fits_132 : decode cX7_fits 132 = .ok (.getfield 31, 3) := by decide +kernel
theorem dX7_fits_135 : decode cX7_fits 135 = .ok (.iconst 0, 1) := by decide +kernel
theorem dX7_fits_136 : decode cX7_fits 136 = .ok (.invokestatic 151, 3) := by decide +kernel
theorem dX7_fits_139 : decode cX7_fits 139 = .ok (.iload 5, 2) := by decide +kernel
theorem dX7_fits_141 : decode cX7_fits 141 = .ok (.iconst 2, 1) := by decide +kernel
theorem dX7_fits_142 : decode cX7_fits 142 = .ok (.if_icmp .ne 16, 3) := by decide +kernel
theorem dX7_fits_145 : decode cX7_fits 145 = .ok (.aload_n 0, 1) := by decide +kernel
theorem dX7_fits_146 : decode cX7_fits 146 = .ok (.getfield 31, 3) := by decide +kernel
theorem dX7_fits_149 : decode cX7_fits 149 = .ok (.iload_n 1, 1) := by decide +kernel
theorem dX7_fits_150 : decode cX7_fits 150 = .ok (.iload 7, 2) := by decide +kernel
theorem dX7_fits_152 : decode cX7_fits 152 = .ok (.invokestatic 239, 3) := by decide +kernel
theorem dX7_fits_155 : decode cX7_fits 155 = .ok (.goto 28, 3) := by decide +kernel
theorem dX7_fits_158 : decode cX7_fits 158 = .ok (.aload_n 0, 1) := by decide +kernel
theorem dX7_fits_159 : decode cX7_fits 159 = .ok (.getfield 31, 3) := by decide +kernel
theorem dX7_fits_162 : decode cX7_fits 162 = .ok (.bipush 62, 2) := by decide +kernel
theorem dX7_fits_164 : decode cX7_fits 164 = .ok (.bipush 6, 2) := by decide +kernel
theorem dX7_fits_166 : decode cX7_fits 166 = .ok (.iload_n 1, 1) := by decide +kernel
theorem dX7_fits_167 : decode cX7_fits 167 = .ok (.imul, 1) := by decide +kernel
theorem dX7_fits_168 : decode cX7_fits 168 = .ok (.iadd, 1) := by decide +kernel
theorem dX7_fits_169 : decode cX7_fits 169 = .ok (.iload 5, 2) := by decide +kernel
theorem dX7_fits_171 : decode cX7_fits 171 = .ok (.ifCond .ne 7, 3) := by decide +kernel
theorem dX7_fits_174 : decode cX7_fits 174 = .ok (.iconst 0, 1) := by decide +kernel
theorem dX7_fits_175 : decode cX7_fits 175 = .ok (.goto 4, 3) := by decide +kernel
theorem dX7_fits_178 : decode cX7_fits 178 = .ok (.iconst 4, 1) := by decide +kernel
theorem dX7_fits_179 : decode cX7_fits 179 = .ok (.iadd, 1) := by decide +kernel
theorem dX7_fits_180 : decode cX7_fits 180 = .ok (.iload 7, 2) := by decide +kernel
theorem dX7_fits_182 : decode cX7_fits 182 = .ok (.iastore, 1) := by decide +kernel
theorem dX7_fits_183 : decode cX7_fits 183 = .ok (.iload 6, 2) := by decide +kernel
theorem dX7_fits_185 : decode cX7_fits 185 = .ok (.aload_n 0, 1) := by decide +kernel
theorem dX7_fits_186 : decode cX7_fits 186 = .ok (.iload_n 2, 1) := by decide +kernel
theorem dX7_fits_187 : decode cX7_fits 187 = .ok (.iload_n 3, 1) := by decide +kernel
theorem dX7_fits_188 : decode cX7_fits 188 = .ok (.iload 4, 2) := by decide +kernel
theorem dX7_fits_190 : decode cX7_fits 190 = .ok (.invokevirtual 248, 3) := by decide +kernel
theorem dX7_fits_193 : decode cX7_fits 193 = .ok (.ifCond .eq 10, 3) := by decide +kernel
theorem dX7_fits_196 : decode cX7_fits 196 = .ok (.iconst 1, 1) := by decide +kernel
theorem dX7_fits_197 : decode cX7_fits 197 = .ok (.iload 7, 2) := by decide +kernel
theorem dX7_fits_199 : decode cX7_fits 199 = .ok (.ishl, 1) := by decide +kernel
theorem dX7_fits_200 : decode cX7_fits 200 = .ok (.goto 4, 3) := by decide +kernel
theorem dX7_fits_203 : decode cX7_fits 203 = .ok (.iconst 0, 1) := by decide +kernel
theorem dX7_fits_204 : decode cX7_fits 204 = .ok (.ior, 1) := by decide +kernel
theorem dX7_fits_205 : decode cX7_fits 205 = .ok (.istore 6, 2) := by decide +kernel
theorem dX7_fits_207 : decode cX7_fits 207 = .ok (.iinc 7 1, 3) := by decide +kernel
theorem dX7_fits_210 : decode cX7_fits 210 = .ok (.goto (-117), 3) := by decide +kernel
theorem dX7_fits_213 : decode cX7_fits 213 = .ok (.aload_n 0, 1) := by decide +kernel
theorem dX7_fits_214 : decode cX7_fits 214 = .ok (.iload 6, 2) := by decide +kernel
theorem dX7_fits_216 : decode cX7_fits 216 = .ok (.invokevirtual 75, 3) := by decide +kernel
theorem dX7_fits_219 : decode cX7_fits 219 = .ok (.ireturn, 1) := by decide +kernel
theorem dX7_drawn_0 : decode cX7_drawn 0 = .ok (.aload_n 0, 1) := by decide +kernel
theorem dX7_drawn_1 : decode cX7_drawn 1 = .ok (.invokevirtual 251, 3) := by decide +kernel
theorem dX7_drawn_4 : decode cX7_drawn 4 = .ok (.ifCond .ne 6, 3) := by decide +kernel
theorem dX7_drawn_7 : decode cX7_drawn 7 = .ok (.ldc 238, 2) := by decide +kernel
theorem dX7_drawn_9 : decode cX7_drawn 9 = .ok (.ireturn, 1) := by decide +kernel
theorem dX7_drawn_10 : decode cX7_drawn 10 = .ok (.iload_n 1, 1) := by decide +kernel
theorem dX7_drawn_11 : decode cX7_drawn 11 = .ok (.iconst 0, 1) := by decide +kernel
theorem dX7_drawn_12 : decode cX7_drawn 12 = .ok (.bipush 20, 2) := by decide +kernel
theorem dX7_drawn_14 : decode cX7_drawn 14 = .ok (.invokestatic 62, 3) := by decide +kernel
theorem dX7_drawn_17 : decode cX7_drawn 17 = .ok (.ifCond .eq 22, 3) := by decide +kernel
theorem dX7_drawn_20 : decode cX7_drawn 20 = .ok (.iload_n 2, 1) := by decide +kernel
theorem dX7_drawn_21 : decode cX7_drawn 21 = .ok (.iconst 1, 1) := by decide +kernel
theorem dX7_drawn_22 : decode cX7_drawn 22 = .ok (.ldc 254, 2) := by decide +kernel
theorem dX7_drawn_24 : decode cX7_drawn 24 = .ok (.invokestatic 62, 3) := by decide +kernel
theorem dX7_drawn_27 : decode cX7_drawn 27 = .ok (.ifCond .eq 12, 3) := by decide +kernel
theorem dX7_drawn_30 : decode cX7_drawn 30 = .ok (.iload_n 3, 1) := by decide +kernel
theorem dX7_drawn_31 : decode cX7_drawn 31 = .ok (.iconst 0, 1) := by decide +kernel
theorem dX7_drawn_32 : decode cX7_drawn 32 = .ok (.iconst 1, 1) := by decide +kernel
theorem dX7_drawn_33 : decode cX7_drawn 33 = .ok (.invokestatic 62, 3) := by decide +kernel
theorem dX7_drawn_36 : decode cX7_drawn 36 = .ok (.ifCond .ne 6, 3) := by decide +kernel
theorem dX7_drawn_39 : decode cX7_drawn 39 = .ok (.ldc 70, 2) := by decide +kernel
theorem dX7_drawn_41 : decode cX7_drawn 41 = .ok (.ireturn, 1) := by decide +kernel
theorem dX7_drawn_42 : decode cX7_drawn 42 = .ok (.iload_n 2, 1) := by decide +kernel
theorem dX7_drawn_43 : decode cX7_drawn 43 = .ok (.i2l, 1) := by decide +kernel
theorem dX7_drawn_44 : decode cX7_drawn 44 = .ok (.lstore 4, 2) := by decide +kernel
theorem dX7_drawn_46 : decode cX7_drawn 46 = .ok (.iconst 0, 1) := by decide +kernel
theorem dX7_drawn_47 : decode cX7_drawn 47 = .ok (.istore 6, 2) := by decide +kernel
theorem dX7_drawn_49 : decode cX7_drawn 49 = .ok (.iconst 0, 1) := by decide +kernel
theorem dX7_drawn_50 : decode cX7_drawn 50 = .ok (.istore 7, 2) := by decide +kernel
theorem dX7_drawn_52 : decode cX7_drawn 52 = .ok (.iconst 0, 1) := by decide +kernel
theorem dX7_drawn_53 : decode cX7_drawn 53 = .ok (.istore 8, 2) := by decide +kernel
theorem dX7_drawn_55 : decode cX7_drawn 55 = .ok (.iload 8, 2) := by decide +kernel
theorem dX7_drawn_57 : decode cX7_drawn 57 = .ok (.iload_n 1, 1) := by decide +kernel
theorem dX7_drawn_58 : decode cX7_drawn 58 = .ok (.if_icmp .ge 95, 3) := by decide +kernel
theorem dX7_drawn_61 : decode cX7_drawn 61 = .ok (.lload 4, 2) := by decide +kernel
theorem dX7_drawn_63 : decode cX7_drawn 63 = .ok (.ldc2_w 255, 3) := by decide +kernel
theorem dX7_drawn_66 : decode cX7_drawn 66 = .ok (.lmul, 1) := by decide +kernel
theorem dX7_drawn_67 : decode cX7_drawn 67 = .ok (.ldc2_w 257, 3) := by decide +kernel
theorem dX7_drawn_70 : decode cX7_drawn 70 = .ok (.lrem, 1) := by decide +kernel
theorem dX7_drawn_71 : decode cX7_drawn 71 = .ok (.lstore 4, 2) := by decide +kernel
theorem dX7_drawn_73 : decode cX7_drawn 73 = .ok (.aload_n 0, 1) := by decide +kernel
theorem dX7_drawn_74 : decode cX7_drawn 74 = .ok (.aload_n 0, 1) := by decide +kernel
theorem dX7_drawn_75 : decode cX7_drawn 75 = .ok (.getfield 25, 3) := by decide +kernel
theorem dX7_drawn_78 : decode cX7_drawn 78 = .ok (.lload 4, 2) := by decide +kernel
theorem dX7_drawn_80 : decode cX7_drawn 80 = .ok (.aload_n 0, 1) := by decide +kernel
theorem dX7_drawn_81 : decode cX7_drawn 81 = .ok (.getfield 25, 3) := by decide +kernel
theorem dX7_drawn_84 : decode cX7_drawn 84 = .ok (.iconst 0, 1) := by decide +kernel
theorem dX7_drawn_85 : decode cX7_drawn 85 = .ok (.iaload, 1) := by decide +kernel
theorem dX7_drawn_86 : decode cX7_drawn 86 = .ok (.i2l, 1) := by decide +kernel
theorem dX7_drawn_87 : decode cX7_drawn 87 = .ok (.lrem, 1) := by decide +kernel
theorem dX7_drawn_88 : decode cX7_drawn 88 = .ok (.l2i, 1) := by decide +kernel
theorem dX7_drawn_89 : decode cX7_drawn 89 = .ok (.lload 4, 2) := by decide +kernel
theorem dX7_drawn_91 : decode cX7_drawn 91 = .ok (.ldc2_w 259, 3) := by decide +kernel
theorem dX7_drawn_94 : decode cX7_drawn 94 = .ok (.ldiv, 1) := by decide +kernel
theorem dX7_drawn_95 : decode cX7_drawn 95 = .ok (.ldc2_w 261, 3) := by decide +kernel
theorem dX7_drawn_98 : decode cX7_drawn 98 = .ok (.lrem, 1) := by decide +kernel
theorem dX7_drawn_99 : decode cX7_drawn 99 = .ok (.l2i, 1) := by decide +kernel
theorem dX7_drawn_100 : decode cX7_drawn 100 = .ok (.invokevirtual 245, 3) := by decide +kernel
theorem dX7_drawn_103 : decode cX7_drawn 103 = .ok (.iload 6, 2) := by decide +kernel
theorem dX7_drawn_105 : decode cX7_drawn 105 = .ok (.aload_n 0, 1) := by decide +kernel
theorem dX7_drawn_106 : decode cX7_drawn 106 = .ok (.getfield 179, 3) := by decide +kernel
theorem dX7_drawn_109 : decode cX7_drawn 109 = .ok (.ifCond .eq 7, 3) := by decide +kernel
theorem dX7_drawn_112 : decode cX7_drawn 112 = .ok (.iconst 0, 1) := by decide +kernel
theorem dX7_drawn_113 : decode cX7_drawn 113 = .ok (.goto 7, 3) := by decide +kernel
theorem dX7_drawn_116 : decode cX7_drawn 116 = .ok (.aload_n 0, 1) := by decide +kernel
theorem dX7_drawn_117 : decode cX7_drawn 117 = .ok (.getfield 176, 3) := by decide +kernel
theorem dX7_drawn_120 : decode cX7_drawn 120 = .ok (.iadd, 1) := by decide +kernel
theorem dX7_drawn_121 : decode cX7_drawn 121 = .ok (.istore 6, 2) := by decide +kernel
theorem dX7_drawn_123 : decode cX7_drawn 123 = .ok (.iload 7, 2) := by decide +kernel
theorem dX7_drawn_125 : decode cX7_drawn 125 = .ok (.aload_n 0, 1) := by decide +kernel
theorem dX7_drawn_126 : decode cX7_drawn 126 = .ok (.getfield 179, 3) := by decide +kernel
theorem dX7_drawn_129 : decode cX7_drawn 129 = .ok (.ifCond .ne 14, 3) := by decide +kernel
theorem dX7_drawn_132 : decode cX7_drawn 132 = .ok (.aload_n 0, 1) := by decide +kernel
theorem dX7_drawn_133 : decode cX7_drawn 133 = .ok (.getfield 204, 3) := by decide +kernel
theorem dX7_drawn_136 : decode cX7_drawn 136 = .ok (.ifCond .le 7, 3) := by decide +kernel
theorem dX7_drawn_139 : decode cX7_drawn 139 = .ok (.iconst 1, 1) := by decide +kernel
theorem dX7_drawn_140 : decode cX7_drawn 140 = .ok (.goto 4, 3) := by decide +kernel
theorem dX7_drawn_143 : decode cX7_drawn 143 = .ok (.iconst 0, 1) := by decide +kernel
theorem dX7_drawn_144 : decode cX7_drawn 144 = .ok (.iadd, 1) := by decide +kernel
theorem dX7_drawn_145 : decode cX7_drawn 145 = .ok (.istore 7, 2) := by decide +kernel
theorem dX7_drawn_147 : decode cX7_drawn 147 = .ok (.iinc 8 1, 3) := by decide +kernel
theorem dX7_drawn_150 : decode cX7_drawn 150 = .ok (.goto (-95), 3) := by decide +kernel
theorem dX7_drawn_153 : decode cX7_drawn 153 = .ok (.iload_n 3, 1) := by decide +kernel
theorem dX7_drawn_154 : decode cX7_drawn 154 = .ok (.ifCond .ne 8, 3) := by decide +kernel
theorem dX7_drawn_157 : decode cX7_drawn 157 = .ok (.iload 6, 2) := by decide +kernel
theorem dX7_drawn_159 : decode cX7_drawn 159 = .ok (.goto 5, 3) := by decide +kernel
theorem dX7_drawn_162 : decode cX7_drawn 162 = .ok (.iload 7, 2) := by decide +kernel
theorem dX7_drawn_164 : decode cX7_drawn 164 = .ok (.ireturn, 1) := by decide +kernel
theorem dX7_image_0 : decode cX7_image 0 = .ok (.iload_n 1, 1) := by decide +kernel
theorem dX7_image_1 : decode cX7_image 1 = .ok (.iconst 0, 1) := by decide +kernel
theorem dX7_image_2 : decode cX7_image 2 = .ok (.iconst 1, 1) := by decide +kernel
theorem dX7_image_3 : decode cX7_image 3 = .ok (.invokestatic 62, 3) := by decide +kernel
theorem dX7_image_6 : decode cX7_image 6 = .ok (.ifCond .ne 6, 3) := by decide +kernel
theorem dX7_image_9 : decode cX7_image 9 = .ok (.ldc 70, 2) := by decide +kernel
theorem dX7_image_11 : decode cX7_image 11 = .ok (.ireturn, 1) := by decide +kernel
theorem dX7_image_12 : decode cX7_image 12 = .ok (.aload_n 0, 1) := by decide +kernel
theorem dX7_image_13 : decode cX7_image 13 = .ok (.invokevirtual 251, 3) := by decide +kernel
theorem dX7_image_16 : decode cX7_image 16 = .ok (.ifCond .ne 6, 3) := by decide +kernel
theorem dX7_image_19 : decode cX7_image 19 = .ok (.ldc 238, 2) := by decide +kernel
theorem dX7_image_21 : decode cX7_image 21 = .ok (.ireturn, 1) := by decide +kernel
theorem dX7_image_22 : decode cX7_image 22 = .ok (.aload_n 0, 1) := by decide +kernel
theorem dX7_image_23 : decode cX7_image 23 = .ok (.getfield 25, 3) := by decide +kernel
theorem dX7_image_26 : decode cX7_image 26 = .ok (.iconst 0, 1) := by decide +kernel
theorem dX7_image_27 : decode cX7_image 27 = .ok (.aload_n 0, 1) := by decide +kernel
theorem dX7_image_28 : decode cX7_image 28 = .ok (.getfield 37, 3) := by decide +kernel
theorem dX7_image_31 : decode cX7_image 31 = .ok (.bipush 92, 2) := by decide +kernel
theorem dX7_image_33 : decode cX7_image 33 = .ok (.iload_n 1, 1) := by decide +kernel
theorem dX7_image_34 : decode cX7_image 34 = .ok (.imul, 1) := by decide +kernel
theorem dX7_image_35 : decode cX7_image 35 = .ok (.invokestatic 151, 3) := by decide +kernel
theorem dX7_image_38 : decode cX7_image 38 = .ok (.aload_n 0, 1) := by decide +kernel
theorem dX7_image_39 : decode cX7_image 39 = .ok (.getfield 40, 3) := by decide +kernel
theorem dX7_image_42 : decode cX7_image 42 = .ok (.iload_n 1, 1) := by decide +kernel
theorem dX7_image_43 : decode cX7_image 43 = .ok (.iconst 1, 1) := by decide +kernel
theorem dX7_image_44 : decode cX7_image 44 = .ok (.bastore, 1) := by decide +kernel
theorem dX7_image_45 : decode cX7_image 45 = .ok (.iconst 1, 1) := by decide +kernel
theorem dX7_image_46 : decode cX7_image 46 = .ok (.ireturn, 1) := by decide +kernel
theorem dX7_restore_0 : decode cX7_restore 0 = .ok (.iload_n 1, 1) := by decide +kernel
theorem dX7_restore_1 : decode cX7_restore 1 = .ok (.iconst 0, 1) := by decide +kernel
theorem dX7_restore_2 : decode cX7_restore 2 = .ok (.iconst 1, 1) := by decide +kernel
theorem dX7_restore_3 : decode cX7_restore 3 = .ok (.invokestatic 62, 3) := by decide +kernel
theorem dX7_restore_6 : decode cX7_restore 6 = .ok (.ifCond .ne 6, 3) := by decide +kernel
theorem dX7_restore_9 : decode cX7_restore 9 = .ok (.ldc 70, 2) := by decide +kernel
theorem dX7_restore_11 : decode cX7_restore 11 = .ok (.ireturn, 1) := by decide +kernel
theorem dX7_restore_12 : decode cX7_restore 12 = .ok (.aload_n 0, 1) := by decide +kernel
theorem dX7_restore_13 : decode cX7_restore 13 = .ok (.getfield 40, 3) := by decide +kernel
theorem dX7_restore_16 : decode cX7_restore 16 = .ok (.iload_n 1, 1) := by decide +kernel
theorem dX7_restore_17 : decode cX7_restore 17 = .ok (.baload, 1) := by decide +kernel
theorem dX7_restore_18 : decode cX7_restore 18 = .ok (.ifCond .ne 6, 3) := by decide +kernel
theorem dX7_restore_21 : decode cX7_restore 21 = .ok (.ldc 238, 2) := by decide +kernel
theorem dX7_restore_23 : decode cX7_restore 23 = .ok (.ireturn, 1) := by decide +kernel
theorem dX7_restore_24 : decode cX7_restore 24 = .ok (.aload_n 0, 1) := by decide +kernel
theorem dX7_restore_25 : decode cX7_restore 25 = .ok (.getfield 37, 3) := by decide +kernel
theorem dX7_restore_28 : decode cX7_restore 28 = .ok (.bipush 92, 2) := by decide +kernel
theorem dX7_restore_30 : decode cX7_restore 30 = .ok (.iload_n 1, 1) := by decide +kernel
theorem dX7_restore_31 : decode cX7_restore 31 = .ok (.imul, 1) := by decide +kernel
theorem dX7_restore_32 : decode cX7_restore 32 = .ok (.aload_n 0, 1) := by decide +kernel
theorem dX7_restore_33 : decode cX7_restore 33 = .ok (.getfield 25, 3) := by decide +kernel
theorem dX7_restore_36 : decode cX7_restore 36 = .ok (.iconst 0, 1) := by decide +kernel
theorem dX7_restore_37 : decode cX7_restore 37 = .ok (.invokestatic 151, 3) := by decide +kernel
theorem dX7_restore_40 : decode cX7_restore 40 = .ok (.aload_n 0, 1) := by decide +kernel
theorem dX7_restore_41 : decode cX7_restore 41 = .ok (.iconst 0, 1) := by decide +kernel
theorem dX7_restore_42 : decode cX7_restore 42 = .ok (.putfield 155, 3) := by decide +kernel
theorem dX7_restore_45 : decode cX7_restore 45 = .ok (.iconst 1, 1) := by decide +kernel
theorem dX7_restore_46 : decode cX7_restore 46 = .ok (.ireturn, 1) := by decide +kernel
theorem dX7_kindIn_0 : decode cX7_kindIn 0 = .ok (.aload_n 0, 1) := by decide +kernel
theorem dX7_kindIn_1 : decode cX7_kindIn 1 = .ok (.getfield 25, 3) := by decide +kernel
theorem dX7_kindIn_4 : decode cX7_kindIn 4 = .ok (.bipush 62, 2) := by decide +kernel
theorem dX7_kindIn_6 : decode cX7_kindIn 6 = .ok (.bipush 6, 2) := by decide +kernel
theorem dX7_kindIn_8 : decode cX7_kindIn 8 = .ok (.iload_n 1, 1) := by decide +kernel
theorem dX7_kindIn_9 : decode cX7_kindIn 9 = .ok (.imul, 1) := by decide +kernel
theorem dX7_kindIn_10 : decode cX7_kindIn 10 = .ok (.iadd, 1) := by decide +kernel
theorem dX7_kindIn_11 : decode cX7_kindIn 11 = .ok (.iaload, 1) := by decide +kernel
theorem dX7_kindIn_12 : decode cX7_kindIn 12 = .ok (.ireturn, 1) := by decide +kernel
theorem dX7_aboutOf_0 : decode cX7_aboutOf 0 = .ok (.iconst 0, 1) := by decide +kernel
theorem dX7_aboutOf_1 : decode cX7_aboutOf 1 = .ok (.istore_n 2, 1) := by decide +kernel
theorem dX7_aboutOf_2 : decode cX7_aboutOf 2 = .ok (.iconst 0, 1) := by decide +kernel
theorem dX7_aboutOf_3 : decode cX7_aboutOf 3 = .ok (.istore_n 3, 1) := by decide +kernel
theorem dX7_aboutOf_4 : decode cX7_aboutOf 4 = .ok (.iload_n 3, 1) := by decide +kernel
theorem dX7_aboutOf_5 : decode cX7_aboutOf 5 = .ok (.aload_n 0, 1) := by decide +kernel
theorem dX7_aboutOf_6 : decode cX7_aboutOf 6 = .ok (.getfield 25, 3) := by decide +kernel
theorem dX7_aboutOf_9 : decode cX7_aboutOf 9 = .ok (.iconst 0, 1) := by decide +kernel
theorem dX7_aboutOf_10 : decode cX7_aboutOf 10 = .ok (.iaload, 1) := by decide +kernel
theorem dX7_aboutOf_11 : decode cX7_aboutOf 11 = .ok (.if_icmp .ge 29, 3) := by decide +kernel
theorem dX7_aboutOf_14 : decode cX7_aboutOf 14 = .ok (.iload_n 2, 1) := by decide +kernel
theorem dX7_aboutOf_15 : decode cX7_aboutOf 15 = .ok (.aload_n 0, 1) := by decide +kernel
theorem dX7_aboutOf_16 : decode cX7_aboutOf 16 = .ok (.getfield 25, 3) := by decide +kernel
theorem dX7_aboutOf_19 : decode cX7_aboutOf 19 = .ok (.iload_n 3, 1) := by decide +kernel
theorem dX7_aboutOf_20 : decode cX7_aboutOf 20 = .ok (.iload_n 1, 1) := by decide +kernel
theorem dX7_aboutOf_21 : decode cX7_aboutOf 21 = .ok (.invokestatic 196, 3) := by decide +kernel
theorem dX7_aboutOf_24 : decode cX7_aboutOf 24 = .ok (.ifCond .le 7, 3) := by decide +kernel
theorem dX7_aboutOf_27 : decode cX7_aboutOf 27 = .ok (.iconst 1, 1) := by decide +kernel
theorem dX7_aboutOf_28 : decode cX7_aboutOf 28 = .ok (.goto 4, 3) := by decide +kernel
theorem dX7_aboutOf_31 : decode cX7_aboutOf 31 = .ok (.iconst 0, 1) := by decide +kernel
theorem dX7_aboutOf_32 : decode cX7_aboutOf 32 = .ok (.iadd, 1) := by decide +kernel
theorem dX7_aboutOf_33 : decode cX7_aboutOf 33 = .ok (.istore_n 2, 1) := by decide +kernel
theorem dX7_aboutOf_34 : decode cX7_aboutOf 34 = .ok (.iinc 3 1, 3) := by decide +kernel
theorem dX7_aboutOf_37 : decode cX7_aboutOf 37 = .ok (.goto (-33), 3) := by decide +kernel
theorem dX7_aboutOf_40 : decode cX7_aboutOf 40 = .ok (.iload_n 2, 1) := by decide +kernel
theorem dX7_aboutOf_41 : decode cX7_aboutOf 41 = .ok (.ireturn, 1) := by decide +kernel
theorem dX7_kind_0 : decode cX7_kind 0 = .ok (.aload_n 0, 1) := by decide +kernel
theorem dX7_kind_1 : decode cX7_kind 1 = .ok (.iload_n 1, 1) := by decide +kernel
theorem dX7_kind_2 : decode cX7_kind 2 = .ok (.invokevirtual 232, 3) := by decide +kernel
theorem dX7_kind_5 : decode cX7_kind 5 = .ok (.ifCond .eq 11, 3) := by decide +kernel
theorem dX7_kind_8 : decode cX7_kind 8 = .ok (.aload_n 0, 1) := by decide +kernel
theorem dX7_kind_9 : decode cX7_kind 9 = .ok (.iload_n 1, 1) := by decide +kernel
theorem dX7_kind_10 : decode cX7_kind 10 = .ok (.invokevirtual 263, 3) := by decide +kernel
theorem dX7_kind_13 : decode cX7_kind 13 = .ok (.goto 5, 3) := by decide +kernel
theorem dX7_kind_16 : decode cX7_kind 16 = .ok (.ldc 70, 2) := by decide +kernel
theorem dX7_kind_18 : decode cX7_kind 18 = .ok (.ireturn, 1) := by decide +kernel
theorem dX7_as_0 : decode cX7_as 0 = .ok (.aload_n 0, 1) := by decide +kernel
theorem dX7_as_1 : decode cX7_as 1 = .ok (.iload_n 1, 1) := by decide +kernel
theorem dX7_as_2 : decode cX7_as 2 = .ok (.invokevirtual 232, 3) := by decide +kernel
theorem dX7_as_5 : decode cX7_as 5 = .ok (.ifCond .eq 12, 3) := by decide +kernel
theorem dX7_as_8 : decode cX7_as 8 = .ok (.iload_n 2, 1) := by decide +kernel
theorem dX7_as_9 : decode cX7_as 9 = .ok (.iconst 0, 1) := by decide +kernel
theorem dX7_as_10 : decode cX7_as 10 = .ok (.iconst 5, 1) := by decide +kernel
theorem dX7_as_11 : decode cX7_as 11 = .ok (.invokestatic 62, 3) := by decide +kernel
theorem dX7_as_14 : decode cX7_as 14 = .ok (.ifCond .ne 6, 3) := by decide +kernel
theorem dX7_as_17 : decode cX7_as 17 = .ok (.ldc 70, 2) := by decide +kernel
theorem dX7_as_19 : decode cX7_as 19 = .ok (.ireturn, 1) := by decide +kernel
theorem dX7_as_20 : decode cX7_as 20 = .ok (.aload_n 0, 1) := by decide +kernel
theorem dX7_as_21 : decode cX7_as 21 = .ok (.iload_n 1, 1) := by decide +kernel
theorem dX7_as_22 : decode cX7_as 22 = .ok (.invokevirtual 263, 3) := by decide +kernel
theorem dX7_as_25 : decode cX7_as 25 = .ok (.istore_n 3, 1) := by decide +kernel
theorem dX7_as_26 : decode cX7_as 26 = .ok (.iload_n 2, 1) := by decide +kernel
theorem dX7_as_27 : decode cX7_as 27 = .ok (.ifCond .eq 28, 3) := by decide +kernel
theorem dX7_as_30 : decode cX7_as 30 = .ok (.iload_n 2, 1) := by decide +kernel
theorem dX7_as_31 : decode cX7_as 31 = .ok (.iload_n 3, 1) := by decide +kernel
theorem dX7_as_32 : decode cX7_as 32 = .ok (.if_icmp .eq 23, 3) := by decide +kernel
theorem dX7_as_35 : decode cX7_as 35 = .ok (.iload_n 2, 1) := by decide +kernel
theorem dX7_as_36 : decode cX7_as 36 = .ok (.iconst 1, 1) := by decide +kernel
theorem dX7_as_37 : decode cX7_as 37 = .ok (.if_icmp .ne 8, 3) := by decide +kernel
theorem dX7_as_40 : decode cX7_as 40 = .ok (.iload_n 3, 1) := by decide +kernel
theorem dX7_as_41 : decode cX7_as 41 = .ok (.iconst 4, 1) := by decide +kernel
theorem dX7_as_42 : decode cX7_as 42 = .ok (.if_icmp .lt 13, 3) := by decide +kernel
theorem dX7_as_45 : decode cX7_as 45 = .ok (.iload_n 2, 1) := by decide +kernel
theorem dX7_as_46 : decode cX7_as 46 = .ok (.iconst 4, 1) := by decide +kernel
theorem dX7_as_47 : decode cX7_as 47 = .ok (.if_icmp .ne 12, 3) := by decide +kernel
theorem dX7_as_50 : decode cX7_as 50 = .ok (.iload_n 3, 1) := by decide +kernel
theorem dX7_as_51 : decode cX7_as 51 = .ok (.iconst 5, 1) := by decide +kernel
theorem dX7_as_52 : decode cX7_as 52 = .ok (.if_icmp .ne 7, 3) := by decide +kernel
theorem dX7_as_55 : decode cX7_as 55 = .ok (.iconst 1, 1) := by decide +kernel
theorem dX7_as_56 : decode cX7_as 56 = .ok (.goto 4, 3) := by decide +kernel
theorem dX7_as_59 : decode cX7_as 59 = .ok (.iconst 0, 1) := by decide +kernel
theorem dX7_as_60 : decode cX7_as 60 = .ok (.istore 4, 2) := by decide +kernel
theorem dX7_as_62 : decode cX7_as 62 = .ok (.iload 4, 2) := by decide +kernel
theorem dX7_as_64 : decode cX7_as 64 = .ok (.ifCond .eq 11, 3) := by decide +kernel
theorem dX7_as_67 : decode cX7_as 67 = .ok (.aload_n 0, 1) := by decide +kernel
theorem dX7_as_68 : decode cX7_as 68 = .ok (.iload_n 1, 1) := by decide +kernel
theorem dX7_as_69 : decode cX7_as 69 = .ok (.invokevirtual 75, 3) := by decide +kernel
theorem dX7_as_72 : decode cX7_as 72 = .ok (.goto 8, 3) := by decide +kernel
theorem dX7_as_75 : decode cX7_as 75 = .ok (.aload_n 0, 1) := by decide +kernel
theorem dX7_as_76 : decode cX7_as 76 = .ok (.iconst 3, 1) := by decide +kernel
theorem dX7_as_77 : decode cX7_as 77 = .ok (.invokevirtual 71, 3) := by decide +kernel
theorem dX7_as_80 : decode cX7_as 80 = .ok (.ireturn, 1) := by decide +kernel
theorem dX7_begins_0 : decode cX7_begins 0 = .ok (.aload_n 0, 1) := by decide +kernel
theorem dX7_begins_1 : decode cX7_begins 1 = .ok (.getfield 266, 3) := by decide +kernel
theorem dX7_begins_4 : decode cX7_begins 4 = .ok (.bipush 16, 2) := by decide +kernel
theorem dX7_begins_6 : decode cX7_begins 6 = .ok (.if_icmp .ge 23, 3) := by decide +kernel
theorem dX7_begins_9 : decode cX7_begins 9 = .ok (.aload_n 0, 1) := by decide +kernel
theorem dX7_begins_10 : decode cX7_begins 10 = .ok (.getfield 53, 3) := by decide +kernel
theorem dX7_begins_13 : decode cX7_begins 13 = .ok (.aload_n 0, 1) := by decide +kernel
theorem dX7_begins_14 : decode cX7_begins 14 = .ok (.getfield 266, 3) := by decide +kernel
theorem dX7_begins_17 : decode cX7_begins 17 = .ok (.iload_n 1, 1) := by decide +kernel
theorem dX7_begins_18 : decode cX7_begins 18 = .ok (.iastore, 1) := by decide +kernel
theorem dX7_begins_19 : decode cX7_begins 19 = .ok (.aload_n 0, 1) := by decide +kernel
theorem dX7_begins_20 : decode cX7_begins 20 = .ok (.dup, 1) := by decide +kernel
theorem dX7_begins_21 : decode cX7_begins 21 = .ok (.getfield 266, 3) := by decide +kernel
theorem dX7_begins_24 : decode cX7_begins 24 = .ok (.iconst 1, 1) := by decide +kernel
theorem dX7_begins_25 : decode cX7_begins 25 = .ok (.iadd, 1) := by decide +kernel
theorem dX7_begins_26 : decode cX7_begins 26 = .ok (.putfield 266, 3) := by decide +kernel
theorem dX7_begins_29 : decode cX7_begins 29 = .ok (.return_, 1) := by decide +kernel
theorem dX7_afterMark_0 : decode cX7_afterMark 0 = .ok (.aload_n 0, 1) := by decide +kernel
theorem dX7_afterMark_1 : decode cX7_afterMark 1 = .ok (.iload_n 1, 1) := by decide +kernel
theorem dX7_afterMark_2 : decode cX7_afterMark 2 = .ok (.invokevirtual 263, 3) := by decide +kernel
theorem dX7_afterMark_5 : decode cX7_afterMark 5 = .ok (.istore_n 2, 1) := by decide +kernel
theorem dX7_afterMark_6 : decode cX7_afterMark 6 = .ok (.iload_n 2, 1) := by decide +kernel
theorem dX7_afterMark_7 : decode cX7_afterMark 7 = .ok (.iconst 1, 1) := by decide +kernel
theorem dX7_afterMark_8 : decode cX7_afterMark 8 = .ok (.if_icmp .eq 19, 3) := by decide +kernel
theorem dX7_afterMark_11 : decode cX7_afterMark 11 = .ok (.aload_n 0, 1) := by decide +kernel
theorem dX7_afterMark_12 : decode cX7_afterMark 12 = .ok (.iload_n 2, 1) := by decide +kernel
theorem dX7_afterMark_13 : decode cX7_afterMark 13 = .ok (.iconst 2, 1) := by decide +kernel
theorem dX7_afterMark_14 : decode cX7_afterMark 14 = .ok (.if_icmp .ne 8, 3) := by decide +kernel
theorem dX7_afterMark_17 : decode cX7_afterMark 17 = .ok (.bipush 24, 2) := by decide +kernel
theorem dX7_afterMark_19 : decode cX7_afterMark 19 = .ok (.goto 5, 3) := by decide +kernel
theorem dX7_afterMark_22 : decode cX7_afterMark 22 = .ok (.bipush 22, 2) := by decide +kernel
theorem dX7_afterMark_24 : decode cX7_afterMark 24 = .ok (.invokevirtual 269, 3) := by decide +kernel
theorem dX7_afterMark_27 : decode cX7_afterMark 27 = .ok (.aload_n 0, 1) := by decide +kernel
theorem dX7_afterMark_28 : decode cX7_afterMark 28 = .ok (.bipush 21, 2) := by decide +kernel
theorem dX7_afterMark_30 : decode cX7_afterMark 30 = .ok (.invokevirtual 269, 3) := by decide +kernel
theorem dX7_afterMark_33 : decode cX7_afterMark 33 = .ok (.aload_n 0, 1) := by decide +kernel
theorem dX7_afterMark_34 : decode cX7_afterMark 34 = .ok (.bipush 20, 2) := by decide +kernel
theorem dX7_afterMark_36 : decode cX7_afterMark 36 = .ok (.invokevirtual 269, 3) := by decide +kernel
theorem dX7_afterMark_39 : decode cX7_afterMark 39 = .ok (.iload_n 1, 1) := by decide +kernel
theorem dX7_afterMark_40 : decode cX7_afterMark 40 = .ok (.aload_n 0, 1) := by decide +kernel
theorem dX7_afterMark_41 : decode cX7_afterMark 41 = .ok (.iload_n 1, 1) := by decide +kernel
theorem dX7_afterMark_42 : decode cX7_afterMark 42 = .ok (.invokevirtual 272, 3) := by decide +kernel
theorem dX7_afterMark_45 : decode cX7_afterMark 45 = .ok (.iadd, 1) := by decide +kernel
theorem dX7_afterMark_46 : decode cX7_afterMark 46 = .ok (.istore_n 3, 1) := by decide +kernel
theorem dX7_afterMark_47 : decode cX7_afterMark 47 = .ok (.iload_n 2, 1) := by decide +kernel
theorem dX7_afterMark_48 : decode cX7_afterMark 48 = .ok (.iconst 2, 1) := by decide +kernel
theorem dX7_afterMark_49 : decode cX7_afterMark 49 = .ok (.if_icmp .ne 9, 3) := by decide +kernel
theorem dX7_afterMark_52 : decode cX7_afterMark 52 = .ok (.iconst 2, 1) := by decide +kernel
theorem dX7_afterMark_53 : decode cX7_afterMark 53 = .ok (.iload_n 3, 1) := by decide +kernel
theorem dX7_afterMark_54 : decode cX7_afterMark 54 = .ok (.imul, 1) := by decide +kernel
theorem dX7_afterMark_55 : decode cX7_afterMark 55 = .ok (.goto 17, 3) := by decide +kernel
theorem dX7_afterMark_58 : decode cX7_afterMark 58 = .ok (.iload_n 2, 1) := by decide +kernel
theorem dX7_afterMark_59 : decode cX7_afterMark 59 = .ok (.iconst 3, 1) := by decide +kernel
theorem dX7_afterMark_60 : decode cX7_afterMark 60 = .ok (.if_icmp .ne 11, 3) := by decide +kernel
theorem dX7_afterMark_63 : decode cX7_afterMark 63 = .ok (.iload_n 3, 1) := by decide +kernel
theorem dX7_afterMark_64 : decode cX7_afterMark 64 = .ok (.sipush 1000, 3) := by decide +kernel
theorem dX7_afterMark_67 : decode cX7_afterMark 67 = .ok (.isub, 1) := by decide +kernel
theorem dX7_afterMark_68 : decode cX7_afterMark 68 = .ok (.goto 4, 3) := by decide +kernel
theorem dX7_afterMark_71 : decode cX7_afterMark 71 = .ok (.iload_n 3, 1) := by decide +kernel
theorem dX7_afterMark_72 : decode cX7_afterMark 72 = .ok (.ireturn, 1) := by decide +kernel
theorem dX7_aroundSize_0 : decode cX7_aroundSize 0 = .ok (.aload_n 0, 1) := by decide +kernel
theorem dX7_aroundSize_1 : decode cX7_aroundSize 1 = .ok (.iload_n 1, 1) := by decide +kernel
theorem dX7_aroundSize_2 : decode cX7_aroundSize 2 = .ok (.invokevirtual 263, 3) := by decide +kernel
theorem dX7_aroundSize_5 : decode cX7_aroundSize 5 = .ok (.iconst 5, 1) := by decide +kernel
theorem dX7_aroundSize_6 : decode cX7_aroundSize 6 = .ok (.if_icmp .ne 7, 3) := by decide +kernel
theorem dX7_aroundSize_9 : decode cX7_aroundSize 9 = .ok (.iconst 1, 1) := by decide +kernel
theorem dX7_aroundSize_10 : decode cX7_aroundSize 10 = .ok (.goto 4, 3) := by decide +kernel
theorem dX7_aroundSize_13 : decode cX7_aroundSize 13 = .ok (.iconst 0, 1) := by decide +kernel
theorem dX7_aroundSize_14 : decode cX7_aroundSize 14 = .ok (.istore_n 2, 1) := by decide +kernel
theorem dX7_aroundSize_15 : decode cX7_aroundSize 15 = .ok (.iload_n 2, 1) := by decide +kernel
theorem dX7_aroundSize_16 : decode cX7_aroundSize 16 = .ok (.ifCond .eq 9, 3) := by decide +kernel
theorem dX7_aroundSize_19 : decode cX7_aroundSize 19 = .ok (.aload_n 0, 1) := by decide +kernel
theorem dX7_aroundSize_20 : decode cX7_aroundSize 20 = .ok (.bipush 14, 2) := by decide +kernel
theorem dX7_aroundSize_22 : decode cX7_aroundSize 22 = .ok (.invokevirtual 269, 3) := by decide +kernel
theorem dX7_aroundSize_25 : decode cX7_aroundSize 25 = .ok (.aload_n 0, 1) := by decide +kernel
theorem dX7_aroundSize_26 : decode cX7_aroundSize 26 = .ok (.bipush 13, 2) := by decide +kernel
theorem dX7_aroundSize_28 : decode cX7_aroundSize 28 = .ok (.invokevirtual 269, 3) := by decide +kernel
theorem dX7_aroundSize_31 : decode cX7_aroundSize 31 = .ok (.aload_n 0, 1) := by decide +kernel
theorem dX7_aroundSize_32 : decode cX7_aroundSize 32 = .ok (.bipush 10, 2) := by decide +kernel
theorem dX7_aroundSize_34 : decode cX7_aroundSize 34 = .ok (.invokevirtual 269, 3) := by decide +kernel
theorem dX7_aroundSize_37 : decode cX7_aroundSize 37 = .ok (.aload_n 0, 1) := by decide +kernel
theorem dX7_aroundSize_38 : decode cX7_aroundSize 38 = .ok (.getfield 25, 3) := by decide +kernel
theorem dX7_aroundSize_41 : decode cX7_aroundSize 41 = .ok (.bipush 62, 2) := by decide +kernel
theorem dX7_aroundSize_43 : decode cX7_aroundSize 43 = .ok (.bipush 6, 2) := by decide +kernel
theorem dX7_aroundSize_45 : decode cX7_aroundSize 45 = .ok (.iload_n 1, 1) := by decide +kernel
theorem dX7_aroundSize_46 : decode cX7_aroundSize 46 = .ok (.imul, 1) := by decide +kernel
theorem dX7_aroundSize_47 : decode cX7_aroundSize 47 = .ok (.iadd, 1) := by decide +kernel
theorem dX7_aroundSize_48 : decode cX7_aroundSize 48 = .ok (.iconst 1, 1) := by decide +kernel
theorem dX7_aroundSize_49 : decode cX7_aroundSize 49 = .ok (.iadd, 1) := by decide +kernel
theorem dX7_aroundSize_50 : decode cX7_aroundSize 50 = .ok (.iaload, 1) := by decide +kernel
theorem dX7_aroundSize_51 : decode cX7_aroundSize 51 = .ok (.bipush 100, 2) := by decide +kernel
theorem dX7_aroundSize_53 : decode cX7_aroundSize 53 = .ok (.isub, 1) := by decide +kernel
theorem dX7_aroundSize_54 : decode cX7_aroundSize 54 = .ok (.istore_n 3, 1) := by decide +kernel
theorem dX7_aroundSize_55 : decode cX7_aroundSize 55 = .ok (.iload_n 2, 1) := by decide +kernel
theorem dX7_aroundSize_56 : decode cX7_aroundSize 56 = .ok (.ifCond .eq 9, 3) := by decide +kernel
theorem dX7_aroundSize_59 : decode cX7_aroundSize 59 = .ok (.iconst 2, 1) := by decide +kernel
theorem dX7_aroundSize_60 : decode cX7_aroundSize 60 = .ok (.iload_n 3, 1) := by decide +kernel
theorem dX7_aroundSize_61 : decode cX7_aroundSize 61 = .ok (.imul, 1) := by decide +kernel
theorem dX7_aroundSize_62 : decode cX7_aroundSize 62 = .ok (.goto 4, 3) := by decide +kernel
theorem dX7_aroundSize_65 : decode cX7_aroundSize 65 = .ok (.iload_n 3, 1) := by decide +kernel
theorem dX7_aroundSize_66 : decode cX7_aroundSize 66 = .ok (.ireturn, 1) := by decide +kernel
theorem dX7_afterSize_0 : decode cX7_afterSize 0 = .ok (.aload_n 0, 1) := by decide +kernel
theorem dX7_afterSize_1 : decode cX7_afterSize 1 = .ok (.iload_n 1, 1) := by decide +kernel
theorem dX7_afterSize_2 : decode cX7_afterSize 2 = .ok (.invokevirtual 263, 3) := by decide +kernel
theorem dX7_afterSize_5 : decode cX7_afterSize 5 = .ok (.iconst 2, 1) := by decide +kernel
theorem dX7_afterSize_6 : decode cX7_afterSize 6 = .ok (.if_icmp .ne 7, 3) := by decide +kernel
theorem dX7_afterSize_9 : decode cX7_afterSize 9 = .ok (.iconst 1, 1) := by decide +kernel
theorem dX7_afterSize_10 : decode cX7_afterSize 10 = .ok (.goto 4, 3) := by decide +kernel
theorem dX7_afterSize_13 : decode cX7_afterSize 13 = .ok (.iconst 0, 1) := by decide +kernel
theorem dX7_afterSize_14 : decode cX7_afterSize 14 = .ok (.istore_n 2, 1) := by decide +kernel
theorem dX7_afterSize_15 : decode cX7_afterSize 15 = .ok (.iload_n 2, 1) := by decide +kernel
theorem dX7_afterSize_16 : decode cX7_afterSize 16 = .ok (.ifCond .eq 9, 3) := by decide +kernel
theorem dX7_afterSize_19 : decode cX7_afterSize 19 = .ok (.aload_n 0, 1) := by decide +kernel
theorem dX7_afterSize_20 : decode cX7_afterSize 20 = .ok (.bipush 12, 2) := by decide +kernel
theorem dX7_afterSize_22 : decode cX7_afterSize 22 = .ok (.invokevirtual 269, 3) := by decide +kernel
theorem dX7_afterSize_25 : decode cX7_afterSize 25 = .ok (.aload_n 0, 1) := by decide +kernel
theorem dX7_afterSize_26 : decode cX7_afterSize 26 = .ok (.bipush 11, 2) := by decide +kernel
theorem dX7_afterSize_28 : decode cX7_afterSize 28 = .ok (.invokevirtual 269, 3) := by decide +kernel
theorem dX7_afterSize_31 : decode cX7_afterSize 31 = .ok (.aload_n 0, 1) := by decide +kernel
theorem dX7_afterSize_32 : decode cX7_afterSize 32 = .ok (.bipush 10, 2) := by decide +kernel
theorem dX7_afterSize_34 : decode cX7_afterSize 34 = .ok (.invokevirtual 269, 3) := by decide +kernel
theorem dX7_afterSize_37 : decode cX7_afterSize 37 = .ok (.aload_n 0, 1) := by decide +kernel
theorem dX7_afterSize_38 : decode cX7_afterSize 38 = .ok (.getfield 25, 3) := by decide +kernel
theorem dX7_afterSize_41 : decode cX7_afterSize 41 = .ok (.bipush 62, 2) := by decide +kernel
theorem dX7_afterSize_43 : decode cX7_afterSize 43 = .ok (.bipush 6, 2) := by decide +kernel
theorem dX7_afterSize_45 : decode cX7_afterSize 45 = .ok (.iload_n 1, 1) := by decide +kernel
theorem dX7_afterSize_46 : decode cX7_afterSize 46 = .ok (.imul, 1) := by decide +kernel
theorem dX7_afterSize_47 : decode cX7_afterSize 47 = .ok (.iadd, 1) := by decide +kernel
theorem dX7_afterSize_48 : decode cX7_afterSize 48 = .ok (.iconst 1, 1) := by decide +kernel
theorem dX7_afterSize_49 : decode cX7_afterSize 49 = .ok (.iadd, 1) := by decide +kernel
theorem dX7_afterSize_50 : decode cX7_afterSize 50 = .ok (.iaload, 1) := by decide +kernel
theorem dX7_afterSize_51 : decode cX7_afterSize 51 = .ok (.aload_n 0, 1) := by decide +kernel
theorem dX7_afterSize_52 : decode cX7_afterSize 52 = .ok (.iload_n 1, 1) := by decide +kernel
theorem dX7_afterSize_53 : decode cX7_afterSize 53 = .ok (.invokevirtual 275, 3) := by decide +kernel
theorem dX7_afterSize_56 : decode cX7_afterSize 56 = .ok (.iadd, 1) := by decide +kernel
theorem dX7_afterSize_57 : decode cX7_afterSize 57 = .ok (.istore_n 3, 1) := by decide +kernel
theorem dX7_afterSize_58 : decode cX7_afterSize 58 = .ok (.iload_n 2, 1) := by decide +kernel
theorem dX7_afterSize_59 : decode cX7_afterSize 59 = .ok (.ifCond .eq 8, 3) := by decide +kernel
theorem dX7_afterSize_62 : decode cX7_afterSize 62 = .ok (.iload_n 3, 1) := by decide +kernel
theorem dX7_afterSize_63 : decode cX7_afterSize 63 = .ok (.ineg, 1) := by decide +kernel
theorem dX7_afterSize_64 : decode cX7_afterSize 64 = .ok (.goto 4, 3) := by decide +kernel
theorem dX7_afterSize_67 : decode cX7_afterSize 67 = .ok (.iload_n 3, 1) := by decide +kernel
theorem dX7_afterSize_68 : decode cX7_afterSize 68 = .ok (.ireturn, 1) := by decide +kernel
theorem dX7_aroundMark_0 : decode cX7_aroundMark 0 = .ok (.aload_n 0, 1) := by decide +kernel
theorem dX7_aroundMark_1 : decode cX7_aroundMark 1 = .ok (.bipush 23, 2) := by decide +kernel
theorem dX7_aroundMark_3 : decode cX7_aroundMark 3 = .ok (.invokevirtual 269, 3) := by decide +kernel
theorem dX7_aroundMark_6 : decode cX7_aroundMark 6 = .ok (.aload_n 0, 1) := by decide +kernel
theorem dX7_aroundMark_7 : decode cX7_aroundMark 7 = .ok (.bipush 20, 2) := by decide +kernel
theorem dX7_aroundMark_9 : decode cX7_aroundMark 9 = .ok (.invokevirtual 269, 3) := by decide +kernel
theorem dX7_aroundMark_12 : decode cX7_aroundMark 12 = .ok (.iload_n 1, 1) := by decide +kernel
theorem dX7_aroundMark_13 : decode cX7_aroundMark 13 = .ok (.aload_n 0, 1) := by decide +kernel
theorem dX7_aroundMark_14 : decode cX7_aroundMark 14 = .ok (.iload_n 1, 1) := by decide +kernel
theorem dX7_aroundMark_15 : decode cX7_aroundMark 15 = .ok (.invokevirtual 278, 3) := by decide +kernel
theorem dX7_aroundMark_18 : decode cX7_aroundMark 18 = .ok (.isub, 1) := by decide +kernel
theorem dX7_aroundMark_19 : decode cX7_aroundMark 19 = .ok (.ireturn, 1) := by decide +kernel
theorem dX7_ask_0 : decode cX7_ask 0 = .ok (.aload_n 0, 1) := by decide +kernel
theorem dX7_ask_1 : decode cX7_ask 1 = .ok (.iload_n 1, 1) := by decide +kernel
theorem dX7_ask_2 : decode cX7_ask 2 = .ok (.invokevirtual 232, 3) := by decide +kernel
theorem dX7_ask_5 : decode cX7_ask 5 = .ok (.ifCond .eq 12, 3) := by decide +kernel
theorem dX7_ask_8 : decode cX7_ask 8 = .ok (.iload_n 2, 1) := by decide +kernel
theorem dX7_ask_9 : decode cX7_ask 9 = .ok (.iconst 0, 1) := by decide +kernel
theorem dX7_ask_10 : decode cX7_ask 10 = .ok (.iconst 1, 1) := by decide +kernel
theorem dX7_ask_11 : decode cX7_ask 11 = .ok (.invokestatic 62, 3) := by decide +kernel
theorem dX7_ask_14 : decode cX7_ask 14 = .ok (.ifCond .ne 6, 3) := by decide +kernel
theorem dX7_ask_17 : decode cX7_ask 17 = .ok (.ldc 70, 2) := by decide +kernel
theorem dX7_ask_19 : decode cX7_ask 19 = .ok (.ireturn, 1) := by decide +kernel
theorem dX7_ask_20 : decode cX7_ask 20 = .ok (.aload_n 0, 1) := by decide +kernel
theorem dX7_ask_21 : decode cX7_ask 21 = .ok (.iconst 0, 1) := by decide +kernel
theorem dX7_ask_22 : decode cX7_ask 22 = .ok (.putfield 266, 3) := by decide +kernel
theorem dX7_ask_25 : decode cX7_ask 25 = .ok (.aload_n 0, 1) := by decide +kernel
theorem dX7_ask_26 : decode cX7_ask 26 = .ok (.iload_n 1, 1) := by decide +kernel
theorem dX7_ask_27 : decode cX7_ask 27 = .ok (.invokevirtual 263, 3) := by decide +kernel
theorem dX7_ask_30 : decode cX7_ask 30 = .ok (.iconst 4, 1) := by decide +kernel
theorem dX7_ask_31 : decode cX7_ask 31 = .ok (.if_icmp .lt 7, 3) := by decide +kernel
theorem dX7_ask_34 : decode cX7_ask 34 = .ok (.iconst 1, 1) := by decide +kernel
theorem dX7_ask_35 : decode cX7_ask 35 = .ok (.goto 4, 3) := by decide +kernel
theorem dX7_ask_38 : decode cX7_ask 38 = .ok (.iconst 0, 1) := by decide +kernel
theorem dX7_ask_39 : decode cX7_ask 39 = .ok (.istore_n 3, 1) := by decide +kernel
theorem dX7_ask_40 : decode cX7_ask 40 = .ok (.iload_n 2, 1) := by decide +kernel
theorem dX7_ask_41 : decode cX7_ask 41 = .ok (.ifCond .ne 21, 3) := by decide +kernel
theorem dX7_ask_44 : decode cX7_ask 44 = .ok (.iload_n 3, 1) := by decide +kernel
theorem dX7_ask_45 : decode cX7_ask 45 = .ok (.ifCond .eq 11, 3) := by decide +kernel
theorem dX7_ask_48 : decode cX7_ask 48 = .ok (.aload_n 0, 1) := by decide +kernel
theorem dX7_ask_49 : decode cX7_ask 49 = .ok (.iload_n 1, 1) := by decide +kernel
theorem dX7_ask_50 : decode cX7_ask 50 = .ok (.invokevirtual 278, 3) := by decide +kernel
theorem dX7_ask_53 : decode cX7_ask 53 = .ok (.goto 8, 3) := by decide +kernel
theorem dX7_ask_56 : decode cX7_ask 56 = .ok (.aload_n 0, 1) := by decide +kernel
theorem dX7_ask_57 : decode cX7_ask 57 = .ok (.iload_n 1, 1) := by decide +kernel
theorem dX7_ask_58 : decode cX7_ask 58 = .ok (.invokevirtual 281, 3) := by decide +kernel
theorem dX7_ask_61 : decode cX7_ask 61 = .ok (.ireturn, 1) := by decide +kernel
theorem dX7_ask_62 : decode cX7_ask 62 = .ok (.iload_n 3, 1) := by decide +kernel
theorem dX7_ask_63 : decode cX7_ask 63 = .ok (.ifCond .eq 11, 3) := by decide +kernel
theorem dX7_ask_66 : decode cX7_ask 66 = .ok (.aload_n 0, 1) := by decide +kernel
theorem dX7_ask_67 : decode cX7_ask 67 = .ok (.iload_n 1, 1) := by decide +kernel
theorem dX7_ask_68 : decode cX7_ask 68 = .ok (.invokevirtual 284, 3) := by decide +kernel
theorem dX7_ask_71 : decode cX7_ask 71 = .ok (.goto 8, 3) := by decide +kernel
theorem dX7_ask_74 : decode cX7_ask 74 = .ok (.aload_n 0, 1) := by decide +kernel
theorem dX7_ask_75 : decode cX7_ask 75 = .ok (.iload_n 1, 1) := by decide +kernel
theorem dX7_ask_76 : decode cX7_ask 76 = .ok (.invokevirtual 275, 3) := by decide +kernel
theorem dX7_ask_79 : decode cX7_ask 79 = .ok (.ireturn, 1) := by decide +kernel
theorem dX7_trace_0 : decode cX7_trace 0 = .ok (.iload_n 1, 1) := by decide +kernel
theorem dX7_trace_1 : decode cX7_trace 1 = .ok (.iconst 0, 1) := by decide +kernel
theorem dX7_trace_2 : decode cX7_trace 2 = .ok (.aload_n 0, 1) := by decide +kernel
theorem dX7_trace_3 : decode cX7_trace 3 = .ok (.getfield 266, 3) := by decide +kernel
theorem dX7_trace_6 : decode cX7_trace 6 = .ok (.iconst 1, 1) := by decide +kernel
theorem dX7_trace_7 : decode cX7_trace 7 = .ok (.isub, 1) := by decide +kernel
theorem dX7_trace_8 : decode cX7_trace 8 = .ok (.invokestatic 62, 3) := by decide +kernel
theorem dX7_trace_11 : decode cX7_trace 11 = .ok (.ifCond .eq 12, 3) := by decide +kernel
theorem dX7_trace_14 : decode cX7_trace 14 = .ok (.aload_n 0, 1) := by decide +kernel
theorem dX7_trace_15 : decode cX7_trace 15 = .ok (.getfield 53, 3) := by decide +kernel
theorem dX7_trace_18 : decode cX7_trace 18 = .ok (.iload_n 1, 1) := by decide +kernel
theorem dX7_trace_19 : decode cX7_trace 19 = .ok (.iaload, 1) := by decide +kernel
theorem dX7_trace_20 : decode cX7_trace 20 = .ok (.goto 5, 3) := by decide +kernel
theorem dX7_trace_23 : decode cX7_trace 23 = .ok (.ldc 56, 2) := by decide +kernel
theorem dX7_trace_25 : decode cX7_trace 25 = .ok (.ireturn, 1) := by decide +kernel
theorem dX7_count_0 : decode cX7_count 0 = .ok (.iconst 0, 1) := by decide +kernel
theorem dX7_count_1 : decode cX7_count 1 = .ok (.istore_n 2, 1) := by decide +kernel
theorem dX7_count_2 : decode cX7_count 2 = .ok (.iload_n 1, 1) := by decide +kernel
theorem dX7_count_3 : decode cX7_count 3 = .ok (.tableswitch 129 0 5 #[37, 69, 76, 83, 119, 124], 37) := by decide +kernel
theorem dX7_count_40 : decode cX7_count 40 = .ok (.iconst 0, 1) := by decide +kernel
theorem dX7_count_41 : decode cX7_count 41 = .ok (.istore_n 3, 1) := by decide +kernel
theorem dX7_count_42 : decode cX7_count 42 = .ok (.iload_n 3, 1) := by decide +kernel
theorem dX7_count_43 : decode cX7_count 43 = .ok (.bipush 8, 2) := by decide +kernel
theorem dX7_count_45 : decode cX7_count 45 = .ok (.if_icmp .ge 25, 3) := by decide +kernel
theorem dX7_count_48 : decode cX7_count 48 = .ok (.iload_n 2, 1) := by decide +kernel
theorem dX7_count_49 : decode cX7_count 49 = .ok (.aload_n 0, 1) := by decide +kernel
theorem dX7_count_50 : decode cX7_count 50 = .ok (.iload_n 3, 1) := by decide +kernel
theorem dX7_count_51 : decode cX7_count 51 = .ok (.invokevirtual 78, 3) := by decide +kernel
theorem dX7_count_54 : decode cX7_count 54 = .ok (.ifCond .eq 7, 3) := by decide +kernel
theorem dX7_count_57 : decode cX7_count 57 = .ok (.iconst 0, 1) := by decide +kernel
theorem dX7_count_58 : decode cX7_count 58 = .ok (.goto 4, 3) := by decide +kernel
theorem dX7_count_61 : decode cX7_count 61 = .ok (.iconst 1, 1) := by decide +kernel
theorem dX7_count_62 : decode cX7_count 62 = .ok (.iadd, 1) := by decide +kernel
theorem dX7_count_63 : decode cX7_count 63 = .ok (.istore_n 2, 1) := by decide +kernel
theorem dX7_count_64 : decode cX7_count 64 = .ok (.iinc 3 1, 3) := by decide +kernel
theorem dX7_count_67 : decode cX7_count 67 = .ok (.goto (-25), 3) := by decide +kernel
theorem dX7_count_70 : decode cX7_count 70 = .ok (.iload_n 2, 1) := by decide +kernel
theorem dX7_count_71 : decode cX7_count 71 = .ok (.ireturn, 1) := by decide +kernel
theorem dX7_count_72 : decode cX7_count 72 = .ok (.aload_n 0, 1) := by decide +kernel
theorem dX7_count_73 : decode cX7_count 73 = .ok (.getfield 25, 3) := by decide +kernel
theorem dX7_count_76 : decode cX7_count 76 = .ok (.iconst 0, 1) := by decide +kernel
theorem dX7_count_77 : decode cX7_count 77 = .ok (.iaload, 1) := by decide +kernel
theorem dX7_count_78 : decode cX7_count 78 = .ok (.ireturn, 1) := by decide +kernel
theorem dX7_count_79 : decode cX7_count 79 = .ok (.aload_n 0, 1) := by decide +kernel
theorem dX7_count_80 : decode cX7_count 80 = .ok (.getfield 25, 3) := by decide +kernel
theorem dX7_count_83 : decode cX7_count 83 = .ok (.iconst 1, 1) := by decide +kernel
theorem dX7_count_84 : decode cX7_count 84 = .ok (.iaload, 1) := by decide +kernel
theorem dX7_count_85 : decode cX7_count 85 = .ok (.ireturn, 1) := by decide +kernel
theorem dX7_count_86 : decode cX7_count 86 = .ok (.iconst 0, 1) := by decide +kernel
theorem dX7_count_87 : decode cX7_count 87 = .ok (.istore_n 3, 1) := by decide +kernel
theorem dX7_count_88 : decode cX7_count 88 = .ok (.iload_n 3, 1) := by decide +kernel
theorem dX7_count_89 : decode cX7_count 89 = .ok (.aload_n 0, 1) := by decide +kernel
theorem dX7_count_90 : decode cX7_count 90 = .ok (.getfield 25, 3) := by decide +kernel
theorem dX7_count_93 : decode cX7_count 93 = .ok (.iconst 0, 1) := by decide +kernel
theorem dX7_count_94 : decode cX7_count 94 = .ok (.iaload, 1) := by decide +kernel
theorem dX7_count_95 : decode cX7_count 95 = .ok (.if_icmp .ge 25, 3) := by decide +kernel
theorem dX7_count_98 : decode cX7_count 98 = .ok (.iload_n 2, 1) := by decide +kernel
theorem dX7_count_99 : decode cX7_count 99 = .ok (.aload_n 0, 1) := by decide +kernel
theorem dX7_count_100 : decode cX7_count 100 = .ok (.getfield 25, 3) := by decide +kernel
theorem dX7_count_103 : decode cX7_count 103 = .ok (.iconst 2, 1) := by decide +kernel
theorem dX7_count_104 : decode cX7_count 104 = .ok (.bipush 10, 2) := by decide +kernel
theorem dX7_count_106 : decode cX7_count 106 = .ok (.iload_n 3, 1) := by decide +kernel
theorem dX7_count_107 : decode cX7_count 107 = .ok (.imul, 1) := by decide +kernel
theorem dX7_count_108 : decode cX7_count 108 = .ok (.iadd, 1) := by decide +kernel
theorem dX7_count_109 : decode cX7_count 109 = .ok (.iconst 1, 1) := by decide +kernel
theorem dX7_count_110 : decode cX7_count 110 = .ok (.iadd, 1) := by decide +kernel
theorem dX7_count_111 : decode cX7_count 111 = .ok (.iaload, 1) := by decide +kernel
theorem dX7_count_112 : decode cX7_count 112 = .ok (.iadd, 1) := by decide +kernel
theorem dX7_count_113 : decode cX7_count 113 = .ok (.istore_n 2, 1) := by decide +kernel
theorem dX7_count_114 : decode cX7_count 114 = .ok (.iinc 3 1, 3) := by decide +kernel
theorem dX7_count_117 : decode cX7_count 117 = .ok (.goto (-29), 3) := by decide +kernel
theorem dX7_count_120 : decode cX7_count 120 = .ok (.iload_n 2, 1) := by decide +kernel
theorem dX7_count_121 : decode cX7_count 121 = .ok (.ireturn, 1) := by decide +kernel
theorem dX7_count_122 : decode cX7_count 122 = .ok (.aload_n 0, 1) := by decide +kernel
theorem dX7_count_123 : decode cX7_count 123 = .ok (.getfield 155, 3) := by decide +kernel
theorem dX7_count_126 : decode cX7_count 126 = .ok (.ireturn, 1) := by decide +kernel
theorem dX7_count_127 : decode cX7_count 127 = .ok (.aload_n 0, 1) := by decide +kernel
theorem dX7_count_128 : decode cX7_count 128 = .ok (.getfield 88, 3) := by decide +kernel
theorem dX7_count_131 : decode cX7_count 131 = .ok (.ireturn, 1) := by decide +kernel
theorem dX7_count_132 : decode cX7_count 132 = .ok (.ldc 70, 2) := by decide +kernel
theorem dX7_count_134 : decode cX7_count 134 = .ok (.ireturn, 1) := by decide +kernel
theorem dX7_status_0 : decode cX7_status 0 = .ok (.aload_n 0, 1) := by decide +kernel
theorem dX7_status_1 : decode cX7_status 1 = .ok (.getfield 57, 3) := by decide +kernel
theorem dX7_status_4 : decode cX7_status 4 = .ok (.ireturn, 1) := by decide +kernel
end
section
theorem dL_law_0 : decode cL_law 0 = .ok (.new 7, 3) := by decide +kernel
theorem dL_law_3 : decode cL_law 3 = .ok (.dup, 1) := by decide +kernel
theorem dL_law_4 : decode cL_law 4 = .ok (.invokespecial 9, 3) := by decide +kernel
theorem dL_law_7 : decode cL_law 7 = .ok (.astore_n 1, 1) := by decide +kernel
theorem dL_law_8 : decode cL_law 8 = .ok (.new 10, 3) := by decide +kernel
theorem dL_law_11 : decode cL_law 11 = .ok (.dup, 1) := by decide +kernel
theorem dL_law_12 : decode cL_law 12 = .ok (.invokespecial 12, 3) := by decide +kernel
theorem dL_law_15 : decode cL_law 15 = .ok (.astore_n 2, 1) := by decide +kernel
theorem dL_law_16 : decode cL_law 16 = .ok (.iconst 0, 1) := by decide +kernel
theorem dL_law_17 : decode cL_law 17 = .ok (.istore_n 3, 1) := by decide +kernel
theorem dL_law_18 : decode cL_law 18 = .ok (.iload_n 3, 1) := by decide +kernel
theorem dL_law_19 : decode cL_law 19 = .ok (.aload_n 0, 1) := by decide +kernel
theorem dL_law_20 : decode cL_law 20 = .ok (.arraylength, 1) := by decide +kernel
theorem dL_law_21 : decode cL_law 21 = .ok (.bipush 6, 2) := by decide +kernel
theorem dL_law_23 : decode cL_law 23 = .ok (.isub, 1) := by decide +kernel
theorem dL_law_24 : decode cL_law 24 = .ok (.if_icmp .gt 1073, 3) := by decide +kernel
theorem dL_law_27 : decode cL_law 27 = .ok (.aload_n 0, 1) := by decide +kernel
theorem dL_law_28 : decode cL_law 28 = .ok (.iload_n 3, 1) := by decide +kernel
theorem dL_law_29 : decode cL_law 29 = .ok (.iaload, 1) := by decide +kernel
theorem dL_law_30 : decode cL_law 30 = .ok (.bipush 31, 2) := by decide +kernel
theorem dL_law_32 : decode cL_law 32 = .ok (.iand, 1) := by decide +kernel
theorem dL_law_33 : decode cL_law 33 = .ok (.tableswitch 1058 0 28 #[131, 174, 217, 280, 303, 326, 339, 352, 395, 428, 461, 514, 547, 560, 593, 626, 659, 702, 725, 758, 821, 864, 887, 910, 933, 966, 999, 1022, 1045], 131) := by decide +kernel
theorem dL_law_164 : decode cL_law 164 = .ok (.aload_n 1, 1) := by decide +kernel
theorem dL_law_165 : decode cL_law 165 = .ok (.aload_n 0, 1) := by decide +kernel
theorem dL_law_166 : decode cL_law 166 = .ok (.iload_n 3, 1) := by decide +kernel
theorem dL_law_167 : decode cL_law 167 = .ok (.iconst 1, 1) := by decide +kernel
theorem dL_law_168 : decode cL_law 168 = .ok (.iadd, 1) := by decide +kernel
theorem dL_law_169 : decode cL_law 169 = .ok (.iaload, 1) := by decide +kernel
theorem dL_law_170 : decode cL_law 170 = .ok (.aload_n 0, 1) := by decide +kernel
theorem dL_law_171 : decode cL_law 171 = .ok (.iload_n 3, 1) := by decide +kernel
theorem dL_law_172 : decode cL_law 172 = .ok (.iconst 2, 1) := by decide +kernel
theorem dL_law_173 : decode cL_law 173 = .ok (.iadd, 1) := by decide +kernel
theorem dL_law_174 : decode cL_law 174 = .ok (.iaload, 1) := by decide +kernel
theorem dL_law_175 : decode cL_law 175 = .ok (.aload_n 0, 1) := by decide +kernel
theorem dL_law_176 : decode cL_law 176 = .ok (.iload_n 3, 1) := by decide +kernel
theorem dL_law_177 : decode cL_law 177 = .ok (.iconst 3, 1) := by decide +kernel
theorem dL_law_178 : decode cL_law 178 = .ok (.iadd, 1) := by decide +kernel
theorem dL_law_179 : decode cL_law 179 = .ok (.iaload, 1) := by decide +kernel
theorem dL_law_180 : decode cL_law 180 = .ok (.invokevirtual 13, 3) := by decide +kernel
theorem dL_law_183 : decode cL_law 183 = .ok (.aload_n 2, 1) := by decide +kernel
theorem dL_law_184 : decode cL_law 184 = .ok (.aload_n 0, 1) := by decide +kernel
theorem dL_law_185 : decode cL_law 185 = .ok (.iload_n 3, 1) := by decide +kernel
theorem dL_law_186 : decode cL_law 186 = .ok (.iconst 1, 1) := by decide +kernel
theorem dL_law_187 : decode cL_law 187 = .ok (.iadd, 1) := by decide +kernel
theorem dL_law_188 : decode cL_law 188 = .ok (.iaload, 1) := by decide +kernel
theorem dL_law_189 : decode cL_law 189 = .ok (.aload_n 0, 1) := by decide +kernel
theorem dL_law_190 : decode cL_law 190 = .ok (.iload_n 3, 1) := by decide +kernel
theorem dL_law_191 : decode cL_law 191 = .ok (.iconst 2, 1) := by decide +kernel
theorem dL_law_192 : decode cL_law 192 = .ok (.iadd, 1) := by decide +kernel
theorem dL_law_193 : decode cL_law 193 = .ok (.iaload, 1) := by decide +kernel
theorem dL_law_194 : decode cL_law 194 = .ok (.aload_n 0, 1) := by decide +kernel
theorem dL_law_195 : decode cL_law 195 = .ok (.iload_n 3, 1) := by decide +kernel
theorem dL_law_196 : decode cL_law 196 = .ok (.iconst 3, 1) := by decide +kernel
theorem dL_law_197 : decode cL_law 197 = .ok (.iadd, 1) := by decide +kernel
theorem dL_law_198 : decode cL_law 198 = .ok (.iaload, 1) := by decide +kernel
theorem dL_law_199 : decode cL_law 199 = .ok (.invokevirtual 17, 3) := by decide +kernel
theorem dL_law_202 : decode cL_law 202 = .ok (.if_icmp .eq 889, 3) := by decide +kernel
theorem dL_law_205 : decode cL_law 205 = .ok (.iconst 0, 1) := by decide +kernel
theorem dL_law_206 : decode cL_law 206 = .ok (.ireturn, 1) := by decide +kernel
theorem dL_law_207 : decode cL_law 207 = .ok (.aload_n 1, 1) := by decide +kernel
theorem dL_law_208 : decode cL_law 208 = .ok (.aload_n 0, 1) := by decide +kernel
theorem dL_law_209 : decode cL_law 209 = .ok (.iload_n 3, 1) := by decide +kernel
theorem dL_law_210 : decode cL_law 210 = .ok (.iconst 1, 1) := by decide +kernel
theorem dL_law_211 : decode cL_law 211 = .ok (.iadd, 1) := by decide +kernel
theorem dL_law_212 : decode cL_law 212 = .ok (.iaload, 1) := by decide +kernel
theorem dL_law_213 : decode cL_law 213 = .ok (.aload_n 0, 1) := by decide +kernel
theorem dL_law_214 : decode cL_law 214 = .ok (.iload_n 3, 1) := by decide +kernel
theorem dL_law_215 : decode cL_law 215 = .ok (.iconst 2, 1) := by decide +kernel
theorem dL_law_216 : decode cL_law 216 = .ok (.iadd, 1) := by decide +kernel
theorem dL_law_217 : decode cL_law 217 = .ok (.iaload, 1) := by decide +kernel
theorem dL_law_218 : decode cL_law 218 = .ok (.aload_n 0, 1) := by decide +kernel
theorem dL_law_219 : decode cL_law 219 = .ok (.iload_n 3, 1) := by decide +kernel
theorem dL_law_220 : decode cL_law 220 = .ok (.iconst 3, 1) := by decide +kernel
theorem dL_law_221 : decode cL_law 221 = .ok (.iadd, 1) := by decide +kernel
theorem dL_law_222 : decode cL_law 222 = .ok (.iaload, 1) := by decide +kernel
theorem dL_law_223 : decode cL_law 223 = .ok (.invokevirtual 18, 3) := by decide +kernel
theorem dL_law_226 : decode cL_law 226 = .ok (.aload_n 2, 1) := by decide +kernel
theorem dL_law_227 : decode cL_law 227 = .ok (.aload_n 0, 1) := by decide +kernel
theorem dL_law_228 : decode cL_law 228 = .ok (.iload_n 3, 1) := by decide +kernel
theorem dL_law_229 : decode cL_law 229 = .ok (.iconst 1, 1) := by decide +kernel
theorem dL_law_230 : decode cL_law 230 = .ok (.iadd, 1) := by decide +kernel
theorem dL_law_231 : decode cL_law 231 = .ok (.iaload, 1) := by decide +kernel
theorem dL_law_232 : decode cL_law 232 = .ok (.aload_n 0, 1) := by decide +kernel
theorem dL_law_233 : decode cL_law 233 = .ok (.iload_n 3, 1) := by decide +kernel
theorem dL_law_234 : decode cL_law 234 = .ok (.iconst 2, 1) := by decide +kernel
theorem dL_law_235 : decode cL_law 235 = .ok (.iadd, 1) := by decide +kernel
theorem dL_law_236 : decode cL_law 236 = .ok (.iaload, 1) := by decide +kernel
theorem dL_law_237 : decode cL_law 237 = .ok (.aload_n 0, 1) := by decide +kernel
theorem dL_law_238 : decode cL_law 238 = .ok (.iload_n 3, 1) := by decide +kernel
theorem dL_law_239 : decode cL_law 239 = .ok (.iconst 3, 1) := by decide +kernel
theorem dL_law_240 : decode cL_law 240 = .ok (.iadd, 1) := by decide +kernel
theorem dL_law_241 : decode cL_law 241 = .ok (.iaload, 1) := by decide +kernel
theorem dL_law_242 : decode cL_law 242 = .ok (.invokevirtual 21, 3) := by decide +kernel
theorem dL_law_245 : decode cL_law 245 = .ok (.if_icmp .eq 846, 3) := by decide +kernel
theorem dL_law_248 : decode cL_law 248 = .ok (.iconst 0, 1) := by decide +kernel
theorem dL_law_249 : decode cL_law 249 = .ok (.ireturn, 1) := by decide +kernel
theorem dL_law_250 : decode cL_law 250 = .ok (.aload_n 1, 1) := by decide +kernel
theorem dL_law_251 : decode cL_law 251 = .ok (.aload_n 0, 1) := by decide +kernel
theorem dL_law_252 : decode cL_law 252 = .ok (.iload_n 3, 1) := by decide +kernel
theorem dL_law_253 : decode cL_law 253 = .ok (.iconst 1, 1) := by decide +kernel
theorem dL_law_254 : decode cL_law 254 = .ok (.iadd, 1) := by decide +kernel
theorem dL_law_255 : decode cL_law 255 = .ok (.iaload, 1) := by decide +kernel
theorem dL_law_256 : decode cL_law 256 = .ok (.aload_n 0, 1) := by decide +kernel
theorem dL_law_257 : decode cL_law 257 = .ok (.iload_n 3, 1) := by decide +kernel
theorem dL_law_258 : decode cL_law 258 = .ok (.iconst 2, 1) := by decide +kernel
theorem dL_law_259 : decode cL_law 259 = .ok (.iadd, 1) := by decide +kernel
theorem dL_law_260 : decode cL_law 260 = .ok (.iaload, 1) := by decide +kernel
theorem dL_law_261 : decode cL_law 261 = .ok (.aload_n 0, 1) := by decide +kernel
theorem dL_law_262 : decode cL_law 262 = .ok (.iload_n 3, 1) := by decide +kernel
theorem dL_law_263 : decode cL_law 263 = .ok (.iconst 3, 1) := by decide +kernel
theorem dL_law_264 : decode cL_law 264 = .ok (.iadd, 1) := by decide +kernel
theorem dL_law_265 : decode cL_law 265 = .ok (.iaload, 1) := by decide +kernel
theorem dL_law_266 : decode cL_law 266 = .ok (.aload_n 0, 1) := by decide +kernel
theorem dL_law_267 : decode cL_law 267 = .ok (.iload_n 3, 1) := by decide +kernel
theorem dL_law_268 : decode cL_law 268 = .ok (.iconst 4, 1) := by decide +kernel
theorem dL_law_269 : decode cL_law 269 = .ok (.iadd, 1) := by decide +kernel
theorem dL_law_270 : decode cL_law 270 = .ok (.iaload, 1) := by decide +kernel
theorem dL_law_271 : decode cL_law 271 = .ok (.aload_n 0, 1) := by decide +kernel
theorem dL_law_272 : decode cL_law 272 = .ok (.iload_n 3, 1) := by decide +kernel
theorem dL_law_273 : decode cL_law 273 = .ok (.iconst 5, 1) := by decide +kernel
theorem dL_law_274 : decode cL_law 274 = .ok (.iadd, 1) := by decide +kernel
theorem dL_law_275 : decode cL_law 275 = .ok (.iaload, 1) := by decide +kernel
theorem dL_law_276 : decode cL_law 276 = .ok (.invokevirtual 22, 3) := by decide +kernel
theorem dL_law_279 : decode cL_law 279 = .ok (.aload_n 2, 1) := by decide +kernel
theorem dL_law_280 : decode cL_law 280 = .ok (.aload_n 0, 1) := by decide +kernel
theorem dL_law_281 : decode cL_law 281 = .ok (.iload_n 3, 1) := by decide +kernel
theorem dL_law_282 : decode cL_law 282 = .ok (.iconst 1, 1) := by decide +kernel
theorem dL_law_283 : decode cL_law 283 = .ok (.iadd, 1) := by decide +kernel
theorem dL_law_284 : decode cL_law 284 = .ok (.iaload, 1) := by decide +kernel
theorem dL_law_285 : decode cL_law 285 = .ok (.aload_n 0, 1) := by decide +kernel
theorem dL_law_286 : decode cL_law 286 = .ok (.iload_n 3, 1) := by decide +kernel
theorem dL_law_287 : decode cL_law 287 = .ok (.iconst 2, 1) := by decide +kernel
theorem dL_law_288 : decode cL_law 288 = .ok (.iadd, 1) := by decide +kernel
theorem dL_law_289 : decode cL_law 289 = .ok (.iaload, 1) := by decide +kernel
theorem dL_law_290 : decode cL_law 290 = .ok (.aload_n 0, 1) := by decide +kernel
theorem dL_law_291 : decode cL_law 291 = .ok (.iload_n 3, 1) := by decide +kernel
theorem dL_law_292 : decode cL_law 292 = .ok (.iconst 3, 1) := by decide +kernel
theorem dL_law_293 : decode cL_law 293 = .ok (.iadd, 1) := by decide +kernel
theorem dL_law_294 : decode cL_law 294 = .ok (.iaload, 1) := by decide +kernel
theorem dL_law_295 : decode cL_law 295 = .ok (.aload_n 0, 1) := by decide +kernel
theorem dL_law_296 : decode cL_law 296 = .ok (.iload_n 3, 1) := by decide +kernel
theorem dL_law_297 : decode cL_law 297 = .ok (.iconst 4, 1) := by decide +kernel
theorem dL_law_298 : decode cL_law 298 = .ok (.iadd, 1) := by decide +kernel
theorem dL_law_299 : decode cL_law 299 = .ok (.iaload, 1) := by decide +kernel
theorem dL_law_300 : decode cL_law 300 = .ok (.aload_n 0, 1) := by decide +kernel
theorem dL_law_301 : decode cL_law 301 = .ok (.iload_n 3, 1) := by decide +kernel
theorem dL_law_302 : decode cL_law 302 = .ok (.iconst 5, 1) := by decide +kernel
theorem dL_law_303 : decode cL_law 303 = .ok (.iadd, 1) := by decide +kernel
theorem dL_law_304 : decode cL_law 304 = .ok (.iaload, 1) := by decide +kernel
theorem dL_law_305 : decode cL_law 305 = .ok (.invokevirtual 26, 3) := by decide +kernel
theorem dL_law_308 : decode cL_law 308 = .ok (.if_icmp .eq 783, 3) := by decide +kernel
theorem dL_law_311 : decode cL_law 311 = .ok (.iconst 0, 1) := by decide +kernel
theorem dL_law_312 : decode cL_law 312 = .ok (.ireturn, 1) := by decide +kernel
theorem dL_law_313 : decode cL_law 313 = .ok (.aload_n 1, 1) := by decide +kernel
theorem dL_law_314 : decode cL_law 314 = .ok (.aload_n 0, 1) := by decide +kernel
theorem dL_law_315 : decode cL_law 315 = .ok (.iload_n 3, 1) := by decide +kernel
theorem dL_law_316 : decode cL_law 316 = .ok (.iconst 1, 1) := by decide +kernel
theorem dL_law_317 : decode cL_law 317 = .ok (.iadd, 1) := by decide +kernel
theorem dL_law_318 : decode cL_law 318 = .ok (.iaload, 1) := by decide +kernel
theorem dL_law_319 : decode cL_law 319 = .ok (.invokevirtual 27, 3) := by decide +kernel
theorem dL_law_322 : decode cL_law 322 = .ok (.aload_n 2, 1) := by decide +kernel
theorem dL_law_323 : decode cL_law 323 = .ok (.aload_n 0, 1) := by decide +kernel
theorem dL_law_324 : decode cL_law 324 = .ok (.iload_n 3, 1) := by decide +kernel
theorem dL_law_325 : decode cL_law 325 = .ok (.iconst 1, 1) := by decide +kernel
theorem dL_law_326 : decode cL_law 326 = .ok (.iadd, 1) := by decide +kernel
theorem dL_law_327 : decode cL_law 327 = .ok (.iaload, 1) := by decide +kernel
theorem dL_law_328 : decode cL_law 328 = .ok (.invokevirtual 31, 3) := by decide +kernel
theorem dL_law_331 : decode cL_law 331 = .ok (.if_icmp .eq 760, 3) := by decide +kernel
theorem dL_law_334 : decode cL_law 334 = .ok (.iconst 0, 1) := by decide +kernel
theorem dL_law_335 : decode cL_law 335 = .ok (.ireturn, 1) := by decide +kernel
theorem dL_law_336 : decode cL_law 336 = .ok (.aload_n 1, 1) := by decide +kernel
theorem dL_law_337 : decode cL_law 337 = .ok (.aload_n 0, 1) := by decide +kernel
theorem dL_law_338 : decode cL_law 338 = .ok (.iload_n 3, 1) := by decide +kernel
theorem dL_law_339 : decode cL_law 339 = .ok (.iconst 1, 1) := by decide +kernel
theorem dL_law_340 : decode cL_law 340 = .ok (.iadd, 1) := by decide +kernel
theorem dL_law_341 : decode cL_law 341 = .ok (.iaload, 1) := by decide +kernel
theorem dL_law_342 : decode cL_law 342 = .ok (.invokevirtual 32, 3) := by decide +kernel
theorem dL_law_345 : decode cL_law 345 = .ok (.aload_n 2, 1) := by decide +kernel
theorem dL_law_346 : decode cL_law 346 = .ok (.aload_n 0, 1) := by decide +kernel
theorem dL_law_347 : decode cL_law 347 = .ok (.iload_n 3, 1) := by decide +kernel
theorem dL_law_348 : decode cL_law 348 = .ok (.iconst 1, 1) := by decide +kernel
theorem dL_law_349 : decode cL_law 349 = .ok (.iadd, 1) := by decide +kernel
theorem dL_law_350 : decode cL_law 350 = .ok (.iaload, 1) := by decide +kernel
theorem dL_law_351 : decode cL_law 351 = .ok (.invokevirtual 35, 3) := by decide +kernel
theorem dL_law_354 : decode cL_law 354 = .ok (.if_icmp .eq 737, 3) := by decide +kernel
theorem dL_law_357 : decode cL_law 357 = .ok (.iconst 0, 1) := by decide +kernel
theorem dL_law_358 : decode cL_law 358 = .ok (.ireturn, 1) := by decide +kernel
theorem dL_law_359 : decode cL_law 359 = .ok (.aload_n 1, 1) := by decide +kernel
theorem dL_law_360 : decode cL_law 360 = .ok (.invokevirtual 36, 3) := by decide +kernel
theorem dL_law_363 : decode cL_law 363 = .ok (.aload_n 2, 1) := by decide +kernel
theorem dL_law_364 : decode cL_law 364 = .ok (.invokevirtual 40, 3) := by decide +kernel
theorem dL_law_367 : decode cL_law 367 = .ok (.if_icmp .eq 724, 3) := by decide +kernel
theorem dL_law_370 : decode cL_law 370 = .ok (.iconst 0, 1) := by decide +kernel
theorem dL_law_371 : decode cL_law 371 = .ok (.ireturn, 1) := by decide +kernel
theorem dL_law_372 : decode cL_law 372 = .ok (.aload_n 1, 1) := by decide +kernel
theorem dL_law_373 : decode cL_law 373 = .ok (.invokevirtual 41, 3) := by decide +kernel
theorem dL_law_376 : decode cL_law 376 = .ok (.aload_n 2, 1) := by decide +kernel
theorem dL_law_377 : decode cL_law 377 = .ok (.invokevirtual 44, 3) := by decide +kernel
theorem dL_law_380 : decode cL_law 380 = .ok (.if_icmp .eq 711, 3) := by decide +kernel
theorem dL_law_383 : decode cL_law 383 = .ok (.iconst 0, 1) := by decide +kernel
theorem dL_law_384 : decode cL_law 384 = .ok (.ireturn, 1) := by decide +kernel
theorem dL_law_385 : decode cL_law 385 = .ok (.aload_n 1, 1) := by decide +kernel
theorem dL_law_386 : decode cL_law 386 = .ok (.aload_n 0, 1) := by decide +kernel
theorem dL_law_387 : decode cL_law 387 = .ok (.iload_n 3, 1) := by decide +kernel
theorem dL_law_388 : decode cL_law 388 = .ok (.iconst 1, 1) := by decide +kernel
theorem dL_law_389 : decode cL_law 389 = .ok (.iadd, 1) := by decide +kernel
theorem dL_law_390 : decode cL_law 390 = .ok (.iaload, 1) := by decide +kernel
theorem dL_law_391 : decode cL_law 391 = .ok (.aload_n 0, 1) := by decide +kernel
theorem dL_law_392 : decode cL_law 392 = .ok (.iload_n 3, 1) := by decide +kernel
theorem dL_law_393 : decode cL_law 393 = .ok (.iconst 2, 1) := by decide +kernel
theorem dL_law_394 : decode cL_law 394 = .ok (.iadd, 1) := by decide +kernel
theorem dL_law_395 : decode cL_law 395 = .ok (.iaload, 1) := by decide +kernel
theorem dL_law_396 : decode cL_law 396 = .ok (.aload_n 0, 1) := by decide +kernel
theorem dL_law_397 : decode cL_law 397 = .ok (.iload_n 3, 1) := by decide +kernel
theorem dL_law_398 : decode cL_law 398 = .ok (.iconst 3, 1) := by decide +kernel
theorem dL_law_399 : decode cL_law 399 = .ok (.iadd, 1) := by decide +kernel
theorem dL_law_400 : decode cL_law 400 = .ok (.iaload, 1) := by decide +kernel
theorem dL_law_401 : decode cL_law 401 = .ok (.invokevirtual 45, 3) := by decide +kernel
theorem dL_law_404 : decode cL_law 404 = .ok (.aload_n 2, 1) := by decide +kernel
theorem dL_law_405 : decode cL_law 405 = .ok (.aload_n 0, 1) := by decide +kernel
theorem dL_law_406 : decode cL_law 406 = .ok (.iload_n 3, 1) := by decide +kernel
theorem dL_law_407 : decode cL_law 407 = .ok (.iconst 1, 1) := by decide +kernel
theorem dL_law_408 : decode cL_law 408 = .ok (.iadd, 1) := by decide +kernel
theorem dL_law_409 : decode cL_law 409 = .ok (.iaload, 1) := by decide +kernel
theorem dL_law_410 : decode cL_law 410 = .ok (.aload_n 0, 1) := by decide +kernel
theorem dL_law_411 : decode cL_law 411 = .ok (.iload_n 3, 1) := by decide +kernel
theorem dL_law_412 : decode cL_law 412 = .ok (.iconst 2, 1) := by decide +kernel
theorem dL_law_413 : decode cL_law 413 = .ok (.iadd, 1) := by decide +kernel
theorem dL_law_414 : decode cL_law 414 = .ok (.iaload, 1) := by decide +kernel
theorem dL_law_415 : decode cL_law 415 = .ok (.aload_n 0, 1) := by decide +kernel
theorem dL_law_416 : decode cL_law 416 = .ok (.iload_n 3, 1) := by decide +kernel
theorem dL_law_417 : decode cL_law 417 = .ok (.iconst 3, 1) := by decide +kernel
theorem dL_law_418 : decode cL_law 418 = .ok (.iadd, 1) := by decide +kernel
theorem dL_law_419 : decode cL_law 419 = .ok (.iaload, 1) := by decide +kernel
theorem dL_law_420 : decode cL_law 420 = .ok (.invokevirtual 48, 3) := by decide +kernel
theorem dL_law_423 : decode cL_law 423 = .ok (.if_icmp .eq 668, 3) := by decide +kernel
theorem dL_law_426 : decode cL_law 426 = .ok (.iconst 0, 1) := by decide +kernel
theorem dL_law_427 : decode cL_law 427 = .ok (.ireturn, 1) := by decide +kernel
theorem dL_law_428 : decode cL_law 428 = .ok (.aload_n 1, 1) := by decide +kernel
theorem dL_law_429 : decode cL_law 429 = .ok (.aload_n 0, 1) := by decide +kernel
theorem dL_law_430 : decode cL_law 430 = .ok (.iload_n 3, 1) := by decide +kernel
theorem dL_law_431 : decode cL_law 431 = .ok (.iconst 1, 1) := by decide +kernel
theorem dL_law_432 : decode cL_law 432 = .ok (.iadd, 1) := by decide +kernel
theorem dL_law_433 : decode cL_law 433 = .ok (.iaload, 1) := by decide +kernel
theorem dL_law_434 : decode cL_law 434 = .ok (.aload_n 0, 1) := by decide +kernel
theorem dL_law_435 : decode cL_law 435 = .ok (.iload_n 3, 1) := by decide +kernel
theorem dL_law_436 : decode cL_law 436 = .ok (.iconst 2, 1) := by decide +kernel
theorem dL_law_437 : decode cL_law 437 = .ok (.iadd, 1) := by decide +kernel
theorem dL_law_438 : decode cL_law 438 = .ok (.iaload, 1) := by decide +kernel
theorem dL_law_439 : decode cL_law 439 = .ok (.invokevirtual 49, 3) := by decide +kernel
theorem dL_law_442 : decode cL_law 442 = .ok (.aload_n 2, 1) := by decide +kernel
theorem dL_law_443 : decode cL_law 443 = .ok (.aload_n 0, 1) := by decide +kernel
theorem dL_law_444 : decode cL_law 444 = .ok (.iload_n 3, 1) := by decide +kernel
theorem dL_law_445 : decode cL_law 445 = .ok (.iconst 1, 1) := by decide +kernel
theorem dL_law_446 : decode cL_law 446 = .ok (.iadd, 1) := by decide +kernel
theorem dL_law_447 : decode cL_law 447 = .ok (.iaload, 1) := by decide +kernel
theorem dL_law_448 : decode cL_law 448 = .ok (.aload_n 0, 1) := by decide +kernel
theorem dL_law_449 : decode cL_law 449 = .ok (.iload_n 3, 1) := by decide +kernel
theorem dL_law_450 : decode cL_law 450 = .ok (.iconst 2, 1) := by decide +kernel
theorem dL_law_451 : decode cL_law 451 = .ok (.iadd, 1) := by decide +kernel
theorem dL_law_452 : decode cL_law 452 = .ok (.iaload, 1) := by decide +kernel
theorem dL_law_453 : decode cL_law 453 = .ok (.invokevirtual 53, 3) := by decide +kernel
theorem dL_law_456 : decode cL_law 456 = .ok (.if_icmp .eq 635, 3) := by decide +kernel
theorem dL_law_459 : decode cL_law 459 = .ok (.iconst 0, 1) := by decide +kernel
theorem dL_law_460 : decode cL_law 460 = .ok (.ireturn, 1) := by decide +kernel
theorem dL_law_461 : decode cL_law 461 = .ok (.aload_n 1, 1) := by decide +kernel
theorem dL_law_462 : decode cL_law 462 = .ok (.aload_n 0, 1) := by decide +kernel
theorem dL_law_463 : decode cL_law 463 = .ok (.iload_n 3, 1) := by decide +kernel
theorem dL_law_464 : decode cL_law 464 = .ok (.iconst 1, 1) := by decide +kernel
theorem dL_law_465 : decode cL_law 465 = .ok (.iadd, 1) := by decide +kernel
theorem dL_law_466 : decode cL_law 466 = .ok (.iaload, 1) := by decide +kernel
theorem dL_law_467 : decode cL_law 467 = .ok (.aload_n 0, 1) := by decide +kernel
theorem dL_law_468 : decode cL_law 468 = .ok (.iload_n 3, 1) := by decide +kernel
theorem dL_law_469 : decode cL_law 469 = .ok (.iconst 2, 1) := by decide +kernel
theorem dL_law_470 : decode cL_law 470 = .ok (.iadd, 1) := by decide +kernel
theorem dL_law_471 : decode cL_law 471 = .ok (.iaload, 1) := by decide +kernel
theorem dL_law_472 : decode cL_law 472 = .ok (.invokevirtual 54, 3) := by decide +kernel
theorem dL_law_475 : decode cL_law 475 = .ok (.aload_n 2, 1) := by decide +kernel
theorem dL_law_476 : decode cL_law 476 = .ok (.aload_n 0, 1) := by decide +kernel
theorem dL_law_477 : decode cL_law 477 = .ok (.iload_n 3, 1) := by decide +kernel
theorem dL_law_478 : decode cL_law 478 = .ok (.iconst 1, 1) := by decide +kernel
theorem dL_law_479 : decode cL_law 479 = .ok (.iadd, 1) := by decide +kernel
theorem dL_law_480 : decode cL_law 480 = .ok (.iaload, 1) := by decide +kernel
theorem dL_law_481 : decode cL_law 481 = .ok (.aload_n 0, 1) := by decide +kernel
theorem dL_law_482 : decode cL_law 482 = .ok (.iload_n 3, 1) := by decide +kernel
theorem dL_law_483 : decode cL_law 483 = .ok (.iconst 2, 1) := by decide +kernel
theorem dL_law_484 : decode cL_law 484 = .ok (.iadd, 1) := by decide +kernel
theorem dL_law_485 : decode cL_law 485 = .ok (.iaload, 1) := by decide +kernel
theorem dL_law_486 : decode cL_law 486 = .ok (.invokevirtual 57, 3) := by decide +kernel
theorem dL_law_489 : decode cL_law 489 = .ok (.if_icmp .eq 602, 3) := by decide +kernel
theorem dL_law_492 : decode cL_law 492 = .ok (.iconst 0, 1) := by decide +kernel
theorem dL_law_493 : decode cL_law 493 = .ok (.ireturn, 1) := by decide +kernel
theorem dL_law_494 : decode cL_law 494 = .ok (.aload_n 1, 1) := by decide +kernel
theorem dL_law_495 : decode cL_law 495 = .ok (.aload_n 0, 1) := by decide +kernel
theorem dL_law_496 : decode cL_law 496 = .ok (.iload_n 3, 1) := by decide +kernel
theorem dL_law_497 : decode cL_law 497 = .ok (.iconst 1, 1) := by decide +kernel
theorem dL_law_498 : decode cL_law 498 = .ok (.iadd, 1) := by decide +kernel
theorem dL_law_499 : decode cL_law 499 = .ok (.iaload, 1) := by decide +kernel
theorem dL_law_500 : decode cL_law 500 = .ok (.aload_n 0, 1) := by decide +kernel
theorem dL_law_501 : decode cL_law 501 = .ok (.iload_n 3, 1) := by decide +kernel
theorem dL_law_502 : decode cL_law 502 = .ok (.iconst 2, 1) := by decide +kernel
theorem dL_law_503 : decode cL_law 503 = .ok (.iadd, 1) := by decide +kernel
theorem dL_law_504 : decode cL_law 504 = .ok (.iaload, 1) := by decide +kernel
theorem dL_law_505 : decode cL_law 505 = .ok (.aload_n 0, 1) := by decide +kernel
theorem dL_law_506 : decode cL_law 506 = .ok (.iload_n 3, 1) := by decide +kernel
theorem dL_law_507 : decode cL_law 507 = .ok (.iconst 3, 1) := by decide +kernel
theorem dL_law_508 : decode cL_law 508 = .ok (.iadd, 1) := by decide +kernel
theorem dL_law_509 : decode cL_law 509 = .ok (.iaload, 1) := by decide +kernel
theorem dL_law_510 : decode cL_law 510 = .ok (.aload_n 0, 1) := by decide +kernel
theorem dL_law_511 : decode cL_law 511 = .ok (.iload_n 3, 1) := by decide +kernel
theorem dL_law_512 : decode cL_law 512 = .ok (.iconst 4, 1) := by decide +kernel
theorem dL_law_513 : decode cL_law 513 = .ok (.iadd, 1) := by decide +kernel
theorem dL_law_514 : decode cL_law 514 = .ok (.iaload, 1) := by decide +kernel
theorem dL_law_515 : decode cL_law 515 = .ok (.invokevirtual 58, 3) := by decide +kernel
theorem dL_law_518 : decode cL_law 518 = .ok (.aload_n 2, 1) := by decide +kernel
theorem dL_law_519 : decode cL_law 519 = .ok (.aload_n 0, 1) := by decide +kernel
theorem dL_law_520 : decode cL_law 520 = .ok (.iload_n 3, 1) := by decide +kernel
theorem dL_law_521 : decode cL_law 521 = .ok (.iconst 1, 1) := by decide +kernel
theorem dL_law_522 : decode cL_law 522 = .ok (.iadd, 1) := by decide +kernel
theorem dL_law_523 : decode cL_law 523 = .ok (.iaload, 1) := by decide +kernel
theorem dL_law_524 : decode cL_law 524 = .ok (.aload_n 0, 1) := by decide +kernel
theorem dL_law_525 : decode cL_law 525 = .ok (.iload_n 3, 1) := by decide +kernel
theorem dL_law_526 : decode cL_law 526 = .ok (.iconst 2, 1) := by decide +kernel
theorem dL_law_527 : decode cL_law 527 = .ok (.iadd, 1) := by decide +kernel
theorem dL_law_528 : decode cL_law 528 = .ok (.iaload, 1) := by decide +kernel
theorem dL_law_529 : decode cL_law 529 = .ok (.aload_n 0, 1) := by decide +kernel
theorem dL_law_530 : decode cL_law 530 = .ok (.iload_n 3, 1) := by decide +kernel
theorem dL_law_531 : decode cL_law 531 = .ok (.iconst 3, 1) := by decide +kernel
theorem dL_law_532 : decode cL_law 532 = .ok (.iadd, 1) := by decide +kernel
theorem dL_law_533 : decode cL_law 533 = .ok (.iaload, 1) := by decide +kernel
theorem dL_law_534 : decode cL_law 534 = .ok (.aload_n 0, 1) := by decide +kernel
theorem dL_law_535 : decode cL_law 535 = .ok (.iload_n 3, 1) := by decide +kernel
theorem dL_law_536 : decode cL_law 536 = .ok (.iconst 4, 1) := by decide +kernel
theorem dL_law_537 : decode cL_law 537 = .ok (.iadd, 1) := by decide +kernel
theorem dL_law_538 : decode cL_law 538 = .ok (.iaload, 1) := by decide +kernel
theorem dL_law_539 : decode cL_law 539 = .ok (.invokevirtual 62, 3) := by decide +kernel
theorem dL_law_542 : decode cL_law 542 = .ok (.if_icmp .eq 549, 3) := by decide +kernel
theorem dL_law_545 : decode cL_law 545 = .ok (.iconst 0, 1) := by decide +kernel
theorem dL_law_546 : decode cL_law 546 = .ok (.ireturn, 1) := by decide +kernel
theorem dL_law_547 : decode cL_law 547 = .ok (.aload_n 1, 1) := by decide +kernel
theorem dL_law_548 : decode cL_law 548 = .ok (.aload_n 0, 1) := by decide +kernel
theorem dL_law_549 : decode cL_law 549 = .ok (.iload_n 3, 1) := by decide +kernel
theorem dL_law_550 : decode cL_law 550 = .ok (.iconst 1, 1) := by decide +kernel
theorem dL_law_551 : decode cL_law 551 = .ok (.iadd, 1) := by decide +kernel
theorem dL_law_552 : decode cL_law 552 = .ok (.iaload, 1) := by decide +kernel
theorem dL_law_553 : decode cL_law 553 = .ok (.aload_n 0, 1) := by decide +kernel
theorem dL_law_554 : decode cL_law 554 = .ok (.iload_n 3, 1) := by decide +kernel
theorem dL_law_555 : decode cL_law 555 = .ok (.iconst 2, 1) := by decide +kernel
theorem dL_law_556 : decode cL_law 556 = .ok (.iadd, 1) := by decide +kernel
theorem dL_law_557 : decode cL_law 557 = .ok (.iaload, 1) := by decide +kernel
theorem dL_law_558 : decode cL_law 558 = .ok (.invokevirtual 63, 3) := by decide +kernel
theorem dL_law_561 : decode cL_law 561 = .ok (.aload_n 2, 1) := by decide +kernel
theorem dL_law_562 : decode cL_law 562 = .ok (.aload_n 0, 1) := by decide +kernel
theorem dL_law_563 : decode cL_law 563 = .ok (.iload_n 3, 1) := by decide +kernel
theorem dL_law_564 : decode cL_law 564 = .ok (.iconst 1, 1) := by decide +kernel
theorem dL_law_565 : decode cL_law 565 = .ok (.iadd, 1) := by decide +kernel
theorem dL_law_566 : decode cL_law 566 = .ok (.iaload, 1) := by decide +kernel
theorem dL_law_567 : decode cL_law 567 = .ok (.aload_n 0, 1) := by decide +kernel
theorem dL_law_568 : decode cL_law 568 = .ok (.iload_n 3, 1) := by decide +kernel
theorem dL_law_569 : decode cL_law 569 = .ok (.iconst 2, 1) := by decide +kernel
theorem dL_law_570 : decode cL_law 570 = .ok (.iadd, 1) := by decide +kernel
theorem dL_law_571 : decode cL_law 571 = .ok (.iaload, 1) := by decide +kernel
theorem dL_law_572 : decode cL_law 572 = .ok (.invokevirtual 66, 3) := by decide +kernel
theorem dL_law_575 : decode cL_law 575 = .ok (.if_icmp .eq 516, 3) := by decide +kernel
theorem dL_law_578 : decode cL_law 578 = .ok (.iconst 0, 1) := by decide +kernel
theorem dL_law_579 : decode cL_law 579 = .ok (.ireturn, 1) := by decide +kernel
theorem dL_law_580 : decode cL_law 580 = .ok (.aload_n 1, 1) := by decide +kernel
theorem dL_law_581 : decode cL_law 581 = .ok (.invokevirtual 67, 3) := by decide +kernel
theorem dL_law_584 : decode cL_law 584 = .ok (.aload_n 2, 1) := by decide +kernel
theorem dL_law_585 : decode cL_law 585 = .ok (.invokevirtual 70, 3) := by decide +kernel
theorem dL_law_588 : decode cL_law 588 = .ok (.if_icmp .eq 503, 3) := by decide +kernel
theorem dL_law_591 : decode cL_law 591 = .ok (.iconst 0, 1) := by decide +kernel
theorem dL_law_592 : decode cL_law 592 = .ok (.ireturn, 1) := by decide +kernel
theorem dL_law_593 : decode cL_law 593 = .ok (.aload_n 1, 1) := by decide +kernel
theorem dL_law_594 : decode cL_law 594 = .ok (.aload_n 0, 1) := by decide +kernel
theorem dL_law_595 : decode cL_law 595 = .ok (.iload_n 3, 1) := by decide +kernel
theorem dL_law_596 : decode cL_law 596 = .ok (.iconst 1, 1) := by decide +kernel
theorem dL_law_597 : decode cL_law 597 = .ok (.iadd, 1) := by decide +kernel
theorem dL_law_598 : decode cL_law 598 = .ok (.iaload, 1) := by decide +kernel
theorem dL_law_599 : decode cL_law 599 = .ok (.aload_n 0, 1) := by decide +kernel
theorem dL_law_600 : decode cL_law 600 = .ok (.iload_n 3, 1) := by decide +kernel
theorem dL_law_601 : decode cL_law 601 = .ok (.iconst 2, 1) := by decide +kernel
theorem dL_law_602 : decode cL_law 602 = .ok (.iadd, 1) := by decide +kernel
theorem dL_law_603 : decode cL_law 603 = .ok (.iaload, 1) := by decide +kernel
theorem dL_law_604 : decode cL_law 604 = .ok (.invokevirtual 71, 3) := by decide +kernel
theorem dL_law_607 : decode cL_law 607 = .ok (.aload_n 2, 1) := by decide +kernel
theorem dL_law_608 : decode cL_law 608 = .ok (.aload_n 0, 1) := by decide +kernel
theorem dL_law_609 : decode cL_law 609 = .ok (.iload_n 3, 1) := by decide +kernel
theorem dL_law_610 : decode cL_law 610 = .ok (.iconst 1, 1) := by decide +kernel
theorem dL_law_611 : decode cL_law 611 = .ok (.iadd, 1) := by decide +kernel
theorem dL_law_612 : decode cL_law 612 = .ok (.iaload, 1) := by decide +kernel
theorem dL_law_613 : decode cL_law 613 = .ok (.aload_n 0, 1) := by decide +kernel
theorem dL_law_614 : decode cL_law 614 = .ok (.iload_n 3, 1) := by decide +kernel
theorem dL_law_615 : decode cL_law 615 = .ok (.iconst 2, 1) := by decide +kernel
theorem dL_law_616 : decode cL_law 616 = .ok (.iadd, 1) := by decide +kernel
theorem dL_law_617 : decode cL_law 617 = .ok (.iaload, 1) := by decide +kernel
theorem dL_law_618 : decode cL_law 618 = .ok (.invokevirtual 74, 3) := by decide +kernel
theorem dL_law_621 : decode cL_law 621 = .ok (.if_icmp .eq 470, 3) := by decide +kernel
theorem dL_law_624 : decode cL_law 624 = .ok (.iconst 0, 1) := by decide +kernel
theorem dL_law_625 : decode cL_law 625 = .ok (.ireturn, 1) := by decide +kernel
theorem dL_law_626 : decode cL_law 626 = .ok (.aload_n 1, 1) := by decide +kernel
theorem dL_law_627 : decode cL_law 627 = .ok (.aload_n 0, 1) := by decide +kernel
theorem dL_law_628 : decode cL_law 628 = .ok (.iload_n 3, 1) := by decide +kernel
theorem dL_law_629 : decode cL_law 629 = .ok (.iconst 1, 1) := by decide +kernel
theorem dL_law_630 : decode cL_law 630 = .ok (.iadd, 1) := by decide +kernel
theorem dL_law_631 : decode cL_law 631 = .ok (.iaload, 1) := by decide +kernel
theorem dL_law_632 : decode cL_law 632 = .ok (.aload_n 0, 1) := by decide +kernel
theorem dL_law_633 : decode cL_law 633 = .ok (.iload_n 3, 1) := by decide +kernel
theorem dL_law_634 : decode cL_law 634 = .ok (.iconst 2, 1) := by decide +kernel
theorem dL_law_635 : decode cL_law 635 = .ok (.iadd, 1) := by decide +kernel
theorem dL_law_636 : decode cL_law 636 = .ok (.iaload, 1) := by decide +kernel
theorem dL_law_637 : decode cL_law 637 = .ok (.invokevirtual 75, 3) := by decide +kernel
theorem dL_law_640 : decode cL_law 640 = .ok (.aload_n 2, 1) := by decide +kernel
theorem dL_law_641 : decode cL_law 641 = .ok (.aload_n 0, 1) := by decide +kernel
theorem dL_law_642 : decode cL_law 642 = .ok (.iload_n 3, 1) := by decide +kernel
theorem dL_law_643 : decode cL_law 643 = .ok (.iconst 1, 1) := by decide +kernel
theorem dL_law_644 : decode cL_law 644 = .ok (.iadd, 1) := by decide +kernel
theorem dL_law_645 : decode cL_law 645 = .ok (.iaload, 1) := by decide +kernel
theorem dL_law_646 : decode cL_law 646 = .ok (.aload_n 0, 1) := by decide +kernel
theorem dL_law_647 : decode cL_law 647 = .ok (.iload_n 3, 1) := by decide +kernel
theorem dL_law_648 : decode cL_law 648 = .ok (.iconst 2, 1) := by decide +kernel
theorem dL_law_649 : decode cL_law 649 = .ok (.iadd, 1) := by decide +kernel
theorem dL_law_650 : decode cL_law 650 = .ok (.iaload, 1) := by decide +kernel
theorem dL_law_651 : decode cL_law 651 = .ok (.invokevirtual 78, 3) := by decide +kernel
theorem dL_law_654 : decode cL_law 654 = .ok (.if_icmp .eq 437, 3) := by decide +kernel
theorem dL_law_657 : decode cL_law 657 = .ok (.iconst 0, 1) := by decide +kernel
theorem dL_law_658 : decode cL_law 658 = .ok (.ireturn, 1) := by decide +kernel
theorem dL_law_659 : decode cL_law 659 = .ok (.aload_n 1, 1) := by decide +kernel
theorem dL_law_660 : decode cL_law 660 = .ok (.aload_n 0, 1) := by decide +kernel
theorem dL_law_661 : decode cL_law 661 = .ok (.iload_n 3, 1) := by decide +kernel
theorem dL_law_662 : decode cL_law 662 = .ok (.iconst 1, 1) := by decide +kernel
theorem dL_law_663 : decode cL_law 663 = .ok (.iadd, 1) := by decide +kernel
theorem dL_law_664 : decode cL_law 664 = .ok (.iaload, 1) := by decide +kernel
theorem dL_law_665 : decode cL_law 665 = .ok (.aload_n 0, 1) := by decide +kernel
theorem dL_law_666 : decode cL_law 666 = .ok (.iload_n 3, 1) := by decide +kernel
theorem dL_law_667 : decode cL_law 667 = .ok (.iconst 2, 1) := by decide +kernel
theorem dL_law_668 : decode cL_law 668 = .ok (.iadd, 1) := by decide +kernel
theorem dL_law_669 : decode cL_law 669 = .ok (.iaload, 1) := by decide +kernel
theorem dL_law_670 : decode cL_law 670 = .ok (.invokevirtual 79, 3) := by decide +kernel
theorem dL_law_673 : decode cL_law 673 = .ok (.aload_n 2, 1) := by decide +kernel
theorem dL_law_674 : decode cL_law 674 = .ok (.aload_n 0, 1) := by decide +kernel
theorem dL_law_675 : decode cL_law 675 = .ok (.iload_n 3, 1) := by decide +kernel
theorem dL_law_676 : decode cL_law 676 = .ok (.iconst 1, 1) := by decide +kernel
theorem dL_law_677 : decode cL_law 677 = .ok (.iadd, 1) := by decide +kernel
theorem dL_law_678 : decode cL_law 678 = .ok (.iaload, 1) := by decide +kernel
theorem dL_law_679 : decode cL_law 679 = .ok (.aload_n 0, 1) := by decide +kernel
theorem dL_law_680 : decode cL_law 680 = .ok (.iload_n 3, 1) := by decide +kernel
theorem dL_law_681 : decode cL_law 681 = .ok (.iconst 2, 1) := by decide +kernel
theorem dL_law_682 : decode cL_law 682 = .ok (.iadd, 1) := by decide +kernel
theorem dL_law_683 : decode cL_law 683 = .ok (.iaload, 1) := by decide +kernel
theorem dL_law_684 : decode cL_law 684 = .ok (.invokevirtual 82, 3) := by decide +kernel
theorem dL_law_687 : decode cL_law 687 = .ok (.if_icmp .eq 404, 3) := by decide +kernel
theorem dL_law_690 : decode cL_law 690 = .ok (.iconst 0, 1) := by decide +kernel
theorem dL_law_691 : decode cL_law 691 = .ok (.ireturn, 1) := by decide +kernel
theorem dL_law_692 : decode cL_law 692 = .ok (.aload_n 1, 1) := by decide +kernel
theorem dL_law_693 : decode cL_law 693 = .ok (.aload_n 0, 1) := by decide +kernel
theorem dL_law_694 : decode cL_law 694 = .ok (.iload_n 3, 1) := by decide +kernel
theorem dL_law_695 : decode cL_law 695 = .ok (.iconst 1, 1) := by decide +kernel
theorem dL_law_696 : decode cL_law 696 = .ok (.iadd, 1) := by decide +kernel
theorem dL_law_697 : decode cL_law 697 = .ok (.iaload, 1) := by decide +kernel
theorem dL_law_698 : decode cL_law 698 = .ok (.aload_n 0, 1) := by decide +kernel
theorem dL_law_699 : decode cL_law 699 = .ok (.iload_n 3, 1) := by decide +kernel
theorem dL_law_700 : decode cL_law 700 = .ok (.iconst 2, 1) := by decide +kernel
theorem dL_law_701 : decode cL_law 701 = .ok (.iadd, 1) := by decide +kernel
theorem dL_law_702 : decode cL_law 702 = .ok (.iaload, 1) := by decide +kernel
theorem dL_law_703 : decode cL_law 703 = .ok (.aload_n 0, 1) := by decide +kernel
theorem dL_law_704 : decode cL_law 704 = .ok (.iload_n 3, 1) := by decide +kernel
theorem dL_law_705 : decode cL_law 705 = .ok (.iconst 3, 1) := by decide +kernel
theorem dL_law_706 : decode cL_law 706 = .ok (.iadd, 1) := by decide +kernel
theorem dL_law_707 : decode cL_law 707 = .ok (.iaload, 1) := by decide +kernel
theorem dL_law_708 : decode cL_law 708 = .ok (.invokevirtual 83, 3) := by decide +kernel
theorem dL_law_711 : decode cL_law 711 = .ok (.aload_n 2, 1) := by decide +kernel
theorem dL_law_712 : decode cL_law 712 = .ok (.aload_n 0, 1) := by decide +kernel
theorem dL_law_713 : decode cL_law 713 = .ok (.iload_n 3, 1) := by decide +kernel
theorem dL_law_714 : decode cL_law 714 = .ok (.iconst 1, 1) := by decide +kernel
theorem dL_law_715 : decode cL_law 715 = .ok (.iadd, 1) := by decide +kernel
theorem dL_law_716 : decode cL_law 716 = .ok (.iaload, 1) := by decide +kernel
theorem dL_law_717 : decode cL_law 717 = .ok (.aload_n 0, 1) := by decide +kernel
theorem dL_law_718 : decode cL_law 718 = .ok (.iload_n 3, 1) := by decide +kernel
theorem dL_law_719 : decode cL_law 719 = .ok (.iconst 2, 1) := by decide +kernel
theorem dL_law_720 : decode cL_law 720 = .ok (.iadd, 1) := by decide +kernel
theorem dL_law_721 : decode cL_law 721 = .ok (.iaload, 1) := by decide +kernel
theorem dL_law_722 : decode cL_law 722 = .ok (.aload_n 0, 1) := by decide +kernel
theorem dL_law_723 : decode cL_law 723 = .ok (.iload_n 3, 1) := by decide +kernel
theorem dL_law_724 : decode cL_law 724 = .ok (.iconst 3, 1) := by decide +kernel
theorem dL_law_725 : decode cL_law 725 = .ok (.iadd, 1) := by decide +kernel
theorem dL_law_726 : decode cL_law 726 = .ok (.iaload, 1) := by decide +kernel
theorem dL_law_727 : decode cL_law 727 = .ok (.invokevirtual 86, 3) := by decide +kernel
theorem dL_law_730 : decode cL_law 730 = .ok (.if_icmp .eq 361, 3) := by decide +kernel
theorem dL_law_733 : decode cL_law 733 = .ok (.iconst 0, 1) := by decide +kernel
theorem dL_law_734 : decode cL_law 734 = .ok (.ireturn, 1) := by decide +kernel
theorem dL_law_735 : decode cL_law 735 = .ok (.aload_n 1, 1) := by decide +kernel
theorem dL_law_736 : decode cL_law 736 = .ok (.aload_n 0, 1) := by decide +kernel
theorem dL_law_737 : decode cL_law 737 = .ok (.iload_n 3, 1) := by decide +kernel
theorem dL_law_738 : decode cL_law 738 = .ok (.iconst 1, 1) := by decide +kernel
theorem dL_law_739 : decode cL_law 739 = .ok (.iadd, 1) := by decide +kernel
theorem dL_law_740 : decode cL_law 740 = .ok (.iaload, 1) := by decide +kernel
theorem dL_law_741 : decode cL_law 741 = .ok (.invokevirtual 87, 3) := by decide +kernel
theorem dL_law_744 : decode cL_law 744 = .ok (.aload_n 2, 1) := by decide +kernel
theorem dL_law_745 : decode cL_law 745 = .ok (.aload_n 0, 1) := by decide +kernel
theorem dL_law_746 : decode cL_law 746 = .ok (.iload_n 3, 1) := by decide +kernel
theorem dL_law_747 : decode cL_law 747 = .ok (.iconst 1, 1) := by decide +kernel
theorem dL_law_748 : decode cL_law 748 = .ok (.iadd, 1) := by decide +kernel
theorem dL_law_749 : decode cL_law 749 = .ok (.iaload, 1) := by decide +kernel
theorem dL_law_750 : decode cL_law 750 = .ok (.invokevirtual 90, 3) := by decide +kernel
theorem dL_law_753 : decode cL_law 753 = .ok (.if_icmp .eq 338, 3) := by decide +kernel
theorem dL_law_756 : decode cL_law 756 = .ok (.iconst 0, 1) := by decide +kernel
theorem dL_law_757 : decode cL_law 757 = .ok (.ireturn, 1) := by decide +kernel
theorem dL_law_758 : decode cL_law 758 = .ok (.aload_n 1, 1) := by decide +kernel
theorem dL_law_759 : decode cL_law 759 = .ok (.aload_n 0, 1) := by decide +kernel
theorem dL_law_760 : decode cL_law 760 = .ok (.iload_n 3, 1) := by decide +kernel
theorem dL_law_761 : decode cL_law 761 = .ok (.iconst 1, 1) := by decide +kernel
theorem dL_law_762 : decode cL_law 762 = .ok (.iadd, 1) := by decide +kernel
theorem dL_law_763 : decode cL_law 763 = .ok (.iaload, 1) := by decide +kernel
theorem dL_law_764 : decode cL_law 764 = .ok (.aload_n 0, 1) := by decide +kernel
theorem dL_law_765 : decode cL_law 765 = .ok (.iload_n 3, 1) := by decide +kernel
theorem dL_law_766 : decode cL_law 766 = .ok (.iconst 2, 1) := by decide +kernel
theorem dL_law_767 : decode cL_law 767 = .ok (.iadd, 1) := by decide +kernel
theorem dL_law_768 : decode cL_law 768 = .ok (.iaload, 1) := by decide +kernel
theorem dL_law_769 : decode cL_law 769 = .ok (.invokevirtual 91, 3) := by decide +kernel
theorem dL_law_772 : decode cL_law 772 = .ok (.aload_n 2, 1) := by decide +kernel
theorem dL_law_773 : decode cL_law 773 = .ok (.aload_n 0, 1) := by decide +kernel
theorem dL_law_774 : decode cL_law 774 = .ok (.iload_n 3, 1) := by decide +kernel
theorem dL_law_775 : decode cL_law 775 = .ok (.iconst 1, 1) := by decide +kernel
theorem dL_law_776 : decode cL_law 776 = .ok (.iadd, 1) := by decide +kernel
theorem dL_law_777 : decode cL_law 777 = .ok (.iaload, 1) := by decide +kernel
theorem dL_law_778 : decode cL_law 778 = .ok (.aload_n 0, 1) := by decide +kernel
theorem dL_law_779 : decode cL_law 779 = .ok (.iload_n 3, 1) := by decide +kernel
theorem dL_law_780 : decode cL_law 780 = .ok (.iconst 2, 1) := by decide +kernel
theorem dL_law_781 : decode cL_law 781 = .ok (.iadd, 1) := by decide +kernel
theorem dL_law_782 : decode cL_law 782 = .ok (.iaload, 1) := by decide +kernel
theorem dL_law_783 : decode cL_law 783 = .ok (.invokevirtual 94, 3) := by decide +kernel
theorem dL_law_786 : decode cL_law 786 = .ok (.if_icmp .eq 305, 3) := by decide +kernel
theorem dL_law_789 : decode cL_law 789 = .ok (.iconst 0, 1) := by decide +kernel
theorem dL_law_790 : decode cL_law 790 = .ok (.ireturn, 1) := by decide +kernel
theorem dL_law_791 : decode cL_law 791 = .ok (.aload_n 1, 1) := by decide +kernel
theorem dL_law_792 : decode cL_law 792 = .ok (.aload_n 0, 1) := by decide +kernel
theorem dL_law_793 : decode cL_law 793 = .ok (.iload_n 3, 1) := by decide +kernel
theorem dL_law_794 : decode cL_law 794 = .ok (.iconst 1, 1) := by decide +kernel
theorem dL_law_795 : decode cL_law 795 = .ok (.iadd, 1) := by decide +kernel
theorem dL_law_796 : decode cL_law 796 = .ok (.iaload, 1) := by decide +kernel
theorem dL_law_797 : decode cL_law 797 = .ok (.aload_n 0, 1) := by decide +kernel
theorem dL_law_798 : decode cL_law 798 = .ok (.iload_n 3, 1) := by decide +kernel
theorem dL_law_799 : decode cL_law 799 = .ok (.iconst 2, 1) := by decide +kernel
theorem dL_law_800 : decode cL_law 800 = .ok (.iadd, 1) := by decide +kernel
theorem dL_law_801 : decode cL_law 801 = .ok (.iaload, 1) := by decide +kernel
theorem dL_law_802 : decode cL_law 802 = .ok (.aload_n 0, 1) := by decide +kernel
theorem dL_law_803 : decode cL_law 803 = .ok (.iload_n 3, 1) := by decide +kernel
theorem dL_law_804 : decode cL_law 804 = .ok (.iconst 3, 1) := by decide +kernel
theorem dL_law_805 : decode cL_law 805 = .ok (.iadd, 1) := by decide +kernel
theorem dL_law_806 : decode cL_law 806 = .ok (.iaload, 1) := by decide +kernel
theorem dL_law_807 : decode cL_law 807 = .ok (.aload_n 0, 1) := by decide +kernel
theorem dL_law_808 : decode cL_law 808 = .ok (.iload_n 3, 1) := by decide +kernel
theorem dL_law_809 : decode cL_law 809 = .ok (.iconst 4, 1) := by decide +kernel
theorem dL_law_810 : decode cL_law 810 = .ok (.iadd, 1) := by decide +kernel
theorem dL_law_811 : decode cL_law 811 = .ok (.iaload, 1) := by decide +kernel
theorem dL_law_812 : decode cL_law 812 = .ok (.aload_n 0, 1) := by decide +kernel
theorem dL_law_813 : decode cL_law 813 = .ok (.iload_n 3, 1) := by decide +kernel
theorem dL_law_814 : decode cL_law 814 = .ok (.iconst 5, 1) := by decide +kernel
theorem dL_law_815 : decode cL_law 815 = .ok (.iadd, 1) := by decide +kernel
theorem dL_law_816 : decode cL_law 816 = .ok (.iaload, 1) := by decide +kernel
theorem dL_law_817 : decode cL_law 817 = .ok (.invokevirtual 95, 3) := by decide +kernel
theorem dL_law_820 : decode cL_law 820 = .ok (.aload_n 2, 1) := by decide +kernel
theorem dL_law_821 : decode cL_law 821 = .ok (.aload_n 0, 1) := by decide +kernel
theorem dL_law_822 : decode cL_law 822 = .ok (.iload_n 3, 1) := by decide +kernel
theorem dL_law_823 : decode cL_law 823 = .ok (.iconst 1, 1) := by decide +kernel
theorem dL_law_824 : decode cL_law 824 = .ok (.iadd, 1) := by decide +kernel
theorem dL_law_825 : decode cL_law 825 = .ok (.iaload, 1) := by decide +kernel
theorem dL_law_826 : decode cL_law 826 = .ok (.aload_n 0, 1) := by decide +kernel
theorem dL_law_827 : decode cL_law 827 = .ok (.iload_n 3, 1) := by decide +kernel
theorem dL_law_828 : decode cL_law 828 = .ok (.iconst 2, 1) := by decide +kernel
theorem dL_law_829 : decode cL_law 829 = .ok (.iadd, 1) := by decide +kernel
theorem dL_law_830 : decode cL_law 830 = .ok (.iaload, 1) := by decide +kernel
theorem dL_law_831 : decode cL_law 831 = .ok (.aload_n 0, 1) := by decide +kernel
theorem dL_law_832 : decode cL_law 832 = .ok (.iload_n 3, 1) := by decide +kernel
theorem dL_law_833 : decode cL_law 833 = .ok (.iconst 3, 1) := by decide +kernel
theorem dL_law_834 : decode cL_law 834 = .ok (.iadd, 1) := by decide +kernel
theorem dL_law_835 : decode cL_law 835 = .ok (.iaload, 1) := by decide +kernel
theorem dL_law_836 : decode cL_law 836 = .ok (.aload_n 0, 1) := by decide +kernel
theorem dL_law_837 : decode cL_law 837 = .ok (.iload_n 3, 1) := by decide +kernel
theorem dL_law_838 : decode cL_law 838 = .ok (.iconst 4, 1) := by decide +kernel
theorem dL_law_839 : decode cL_law 839 = .ok (.iadd, 1) := by decide +kernel
theorem dL_law_840 : decode cL_law 840 = .ok (.iaload, 1) := by decide +kernel
theorem dL_law_841 : decode cL_law 841 = .ok (.aload_n 0, 1) := by decide +kernel
theorem dL_law_842 : decode cL_law 842 = .ok (.iload_n 3, 1) := by decide +kernel
theorem dL_law_843 : decode cL_law 843 = .ok (.iconst 5, 1) := by decide +kernel
theorem dL_law_844 : decode cL_law 844 = .ok (.iadd, 1) := by decide +kernel
theorem dL_law_845 : decode cL_law 845 = .ok (.iaload, 1) := by decide +kernel
theorem dL_law_846 : decode cL_law 846 = .ok (.invokevirtual 98, 3) := by decide +kernel
theorem dL_law_849 : decode cL_law 849 = .ok (.if_icmp .eq 242, 3) := by decide +kernel
theorem dL_law_852 : decode cL_law 852 = .ok (.iconst 0, 1) := by decide +kernel
theorem dL_law_853 : decode cL_law 853 = .ok (.ireturn, 1) := by decide +kernel
theorem dL_law_854 : decode cL_law 854 = .ok (.aload_n 1, 1) := by decide +kernel
theorem dL_law_855 : decode cL_law 855 = .ok (.aload_n 0, 1) := by decide +kernel
theorem dL_law_856 : decode cL_law 856 = .ok (.iload_n 3, 1) := by decide +kernel
theorem dL_law_857 : decode cL_law 857 = .ok (.iconst 1, 1) := by decide +kernel
theorem dL_law_858 : decode cL_law 858 = .ok (.iadd, 1) := by decide +kernel
theorem dL_law_859 : decode cL_law 859 = .ok (.iaload, 1) := by decide +kernel
theorem dL_law_860 : decode cL_law 860 = .ok (.aload_n 0, 1) := by decide +kernel
theorem dL_law_861 : decode cL_law 861 = .ok (.iload_n 3, 1) := by decide +kernel
theorem dL_law_862 : decode cL_law 862 = .ok (.iconst 2, 1) := by decide +kernel
theorem dL_law_863 : decode cL_law 863 = .ok (.iadd, 1) := by decide +kernel
theorem dL_law_864 : decode cL_law 864 = .ok (.iaload, 1) := by decide +kernel
theorem dL_law_865 : decode cL_law 865 = .ok (.aload_n 0, 1) := by decide +kernel
theorem dL_law_866 : decode cL_law 866 = .ok (.iload_n 3, 1) := by decide +kernel
theorem dL_law_867 : decode cL_law 867 = .ok (.iconst 3, 1) := by decide +kernel
theorem dL_law_868 : decode cL_law 868 = .ok (.iadd, 1) := by decide +kernel
theorem dL_law_869 : decode cL_law 869 = .ok (.iaload, 1) := by decide +kernel
theorem dL_law_870 : decode cL_law 870 = .ok (.invokevirtual 99, 3) := by decide +kernel
theorem dL_law_873 : decode cL_law 873 = .ok (.aload_n 2, 1) := by decide +kernel
theorem dL_law_874 : decode cL_law 874 = .ok (.aload_n 0, 1) := by decide +kernel
theorem dL_law_875 : decode cL_law 875 = .ok (.iload_n 3, 1) := by decide +kernel
theorem dL_law_876 : decode cL_law 876 = .ok (.iconst 1, 1) := by decide +kernel
theorem dL_law_877 : decode cL_law 877 = .ok (.iadd, 1) := by decide +kernel
theorem dL_law_878 : decode cL_law 878 = .ok (.iaload, 1) := by decide +kernel
theorem dL_law_879 : decode cL_law 879 = .ok (.aload_n 0, 1) := by decide +kernel
theorem dL_law_880 : decode cL_law 880 = .ok (.iload_n 3, 1) := by decide +kernel
theorem dL_law_881 : decode cL_law 881 = .ok (.iconst 2, 1) := by decide +kernel
theorem dL_law_882 : decode cL_law 882 = .ok (.iadd, 1) := by decide +kernel
theorem dL_law_883 : decode cL_law 883 = .ok (.iaload, 1) := by decide +kernel
theorem dL_law_884 : decode cL_law 884 = .ok (.aload_n 0, 1) := by decide +kernel
theorem dL_law_885 : decode cL_law 885 = .ok (.iload_n 3, 1) := by decide +kernel
theorem dL_law_886 : decode cL_law 886 = .ok (.iconst 3, 1) := by decide +kernel
theorem dL_law_887 : decode cL_law 887 = .ok (.iadd, 1) := by decide +kernel
theorem dL_law_888 : decode cL_law 888 = .ok (.iaload, 1) := by decide +kernel
theorem dL_law_889 : decode cL_law 889 = .ok (.invokevirtual 102, 3) := by decide +kernel
theorem dL_law_892 : decode cL_law 892 = .ok (.if_icmp .eq 199, 3) := by decide +kernel
theorem dL_law_895 : decode cL_law 895 = .ok (.iconst 0, 1) := by decide +kernel
theorem dL_law_896 : decode cL_law 896 = .ok (.ireturn, 1) := by decide +kernel
theorem dL_law_897 : decode cL_law 897 = .ok (.aload_n 1, 1) := by decide +kernel
theorem dL_law_898 : decode cL_law 898 = .ok (.aload_n 0, 1) := by decide +kernel
theorem dL_law_899 : decode cL_law 899 = .ok (.iload_n 3, 1) := by decide +kernel
theorem dL_law_900 : decode cL_law 900 = .ok (.iconst 1, 1) := by decide +kernel
theorem dL_law_901 : decode cL_law 901 = .ok (.iadd, 1) := by decide +kernel
theorem dL_law_902 : decode cL_law 902 = .ok (.iaload, 1) := by decide +kernel
theorem dL_law_903 : decode cL_law 903 = .ok (.invokevirtual 103, 3) := by decide +kernel
theorem dL_law_906 : decode cL_law 906 = .ok (.aload_n 2, 1) := by decide +kernel
theorem dL_law_907 : decode cL_law 907 = .ok (.aload_n 0, 1) := by decide +kernel
theorem dL_law_908 : decode cL_law 908 = .ok (.iload_n 3, 1) := by decide +kernel
theorem dL_law_909 : decode cL_law 909 = .ok (.iconst 1, 1) := by decide +kernel
theorem dL_law_910 : decode cL_law 910 = .ok (.iadd, 1) := by decide +kernel
theorem dL_law_911 : decode cL_law 911 = .ok (.iaload, 1) := by decide +kernel
theorem dL_law_912 : decode cL_law 912 = .ok (.invokevirtual 106, 3) := by decide +kernel
theorem dL_law_915 : decode cL_law 915 = .ok (.if_icmp .eq 176, 3) := by decide +kernel
theorem dL_law_918 : decode cL_law 918 = .ok (.iconst 0, 1) := by decide +kernel
theorem dL_law_919 : decode cL_law 919 = .ok (.ireturn, 1) := by decide +kernel
theorem dL_law_920 : decode cL_law 920 = .ok (.aload_n 1, 1) := by decide +kernel
theorem dL_law_921 : decode cL_law 921 = .ok (.aload_n 0, 1) := by decide +kernel
theorem dL_law_922 : decode cL_law 922 = .ok (.iload_n 3, 1) := by decide +kernel
theorem dL_law_923 : decode cL_law 923 = .ok (.iconst 1, 1) := by decide +kernel
theorem dL_law_924 : decode cL_law 924 = .ok (.iadd, 1) := by decide +kernel
theorem dL_law_925 : decode cL_law 925 = .ok (.iaload, 1) := by decide +kernel
theorem dL_law_926 : decode cL_law 926 = .ok (.invokevirtual 107, 3) := by decide +kernel
theorem dL_law_929 : decode cL_law 929 = .ok (.aload_n 2, 1) := by decide +kernel
theorem dL_law_930 : decode cL_law 930 = .ok (.aload_n 0, 1) := by decide +kernel
theorem dL_law_931 : decode cL_law 931 = .ok (.iload_n 3, 1) := by decide +kernel
theorem dL_law_932 : decode cL_law 932 = .ok (.iconst 1, 1) := by decide +kernel
theorem dL_law_933 : decode cL_law 933 = .ok (.iadd, 1) := by decide +kernel
theorem dL_law_934 : decode cL_law 934 = .ok (.iaload, 1) := by decide +kernel
theorem dL_law_935 : decode cL_law 935 = .ok (.invokevirtual 110, 3) := by decide +kernel
theorem dL_law_938 : decode cL_law 938 = .ok (.if_icmp .eq 153, 3) := by decide +kernel
theorem dL_law_941 : decode cL_law 941 = .ok (.iconst 0, 1) := by decide +kernel
theorem dL_law_942 : decode cL_law 942 = .ok (.ireturn, 1) := by decide +kernel
theorem dL_law_943 : decode cL_law 943 = .ok (.aload_n 1, 1) := by decide +kernel
theorem dL_law_944 : decode cL_law 944 = .ok (.aload_n 0, 1) := by decide +kernel
theorem dL_law_945 : decode cL_law 945 = .ok (.iload_n 3, 1) := by decide +kernel
theorem dL_law_946 : decode cL_law 946 = .ok (.iconst 1, 1) := by decide +kernel
theorem dL_law_947 : decode cL_law 947 = .ok (.iadd, 1) := by decide +kernel
theorem dL_law_948 : decode cL_law 948 = .ok (.iaload, 1) := by decide +kernel
theorem dL_law_949 : decode cL_law 949 = .ok (.invokevirtual 111, 3) := by decide +kernel
theorem dL_law_952 : decode cL_law 952 = .ok (.aload_n 2, 1) := by decide +kernel
theorem dL_law_953 : decode cL_law 953 = .ok (.aload_n 0, 1) := by decide +kernel
theorem dL_law_954 : decode cL_law 954 = .ok (.iload_n 3, 1) := by decide +kernel
theorem dL_law_955 : decode cL_law 955 = .ok (.iconst 1, 1) := by decide +kernel
theorem dL_law_956 : decode cL_law 956 = .ok (.iadd, 1) := by decide +kernel
theorem dL_law_957 : decode cL_law 957 = .ok (.iaload, 1) := by decide +kernel
theorem dL_law_958 : decode cL_law 958 = .ok (.invokevirtual 114, 3) := by decide +kernel
theorem dL_law_961 : decode cL_law 961 = .ok (.if_icmp .eq 130, 3) := by decide +kernel
theorem dL_law_964 : decode cL_law 964 = .ok (.iconst 0, 1) := by decide +kernel
theorem dL_law_965 : decode cL_law 965 = .ok (.ireturn, 1) := by decide +kernel
theorem dL_law_966 : decode cL_law 966 = .ok (.aload_n 1, 1) := by decide +kernel
theorem dL_law_967 : decode cL_law 967 = .ok (.aload_n 0, 1) := by decide +kernel
theorem dL_law_968 : decode cL_law 968 = .ok (.iload_n 3, 1) := by decide +kernel
theorem dL_law_969 : decode cL_law 969 = .ok (.iconst 1, 1) := by decide +kernel
theorem dL_law_970 : decode cL_law 970 = .ok (.iadd, 1) := by decide +kernel
theorem dL_law_971 : decode cL_law 971 = .ok (.iaload, 1) := by decide +kernel
theorem dL_law_972 : decode cL_law 972 = .ok (.aload_n 0, 1) := by decide +kernel
theorem dL_law_973 : decode cL_law 973 = .ok (.iload_n 3, 1) := by decide +kernel
theorem dL_law_974 : decode cL_law 974 = .ok (.iconst 2, 1) := by decide +kernel
theorem dL_law_975 : decode cL_law 975 = .ok (.iadd, 1) := by decide +kernel
theorem dL_law_976 : decode cL_law 976 = .ok (.iaload, 1) := by decide +kernel
theorem dL_law_977 : decode cL_law 977 = .ok (.invokevirtual 115, 3) := by decide +kernel
theorem dL_law_980 : decode cL_law 980 = .ok (.aload_n 2, 1) := by decide +kernel
theorem dL_law_981 : decode cL_law 981 = .ok (.aload_n 0, 1) := by decide +kernel
theorem dL_law_982 : decode cL_law 982 = .ok (.iload_n 3, 1) := by decide +kernel
theorem dL_law_983 : decode cL_law 983 = .ok (.iconst 1, 1) := by decide +kernel
theorem dL_law_984 : decode cL_law 984 = .ok (.iadd, 1) := by decide +kernel
theorem dL_law_985 : decode cL_law 985 = .ok (.iaload, 1) := by decide +kernel
theorem dL_law_986 : decode cL_law 986 = .ok (.aload_n 0, 1) := by decide +kernel
theorem dL_law_987 : decode cL_law 987 = .ok (.iload_n 3, 1) := by decide +kernel
theorem dL_law_988 : decode cL_law 988 = .ok (.iconst 2, 1) := by decide +kernel
theorem dL_law_989 : decode cL_law 989 = .ok (.iadd, 1) := by decide +kernel
theorem dL_law_990 : decode cL_law 990 = .ok (.iaload, 1) := by decide +kernel
theorem dL_law_991 : decode cL_law 991 = .ok (.invokevirtual 118, 3) := by decide +kernel
theorem dL_law_994 : decode cL_law 994 = .ok (.if_icmp .eq 97, 3) := by decide +kernel
theorem dL_law_997 : decode cL_law 997 = .ok (.iconst 0, 1) := by decide +kernel
theorem dL_law_998 : decode cL_law 998 = .ok (.ireturn, 1) := by decide +kernel
theorem dL_law_999 : decode cL_law 999 = .ok (.aload_n 1, 1) := by decide +kernel
theorem dL_law_1000 : decode cL_law 1000 = .ok (.aload_n 0, 1) := by decide +kernel
theorem dL_law_1001 : decode cL_law 1001 = .ok (.iload_n 3, 1) := by decide +kernel
theorem dL_law_1002 : decode cL_law 1002 = .ok (.iconst 1, 1) := by decide +kernel
theorem dL_law_1003 : decode cL_law 1003 = .ok (.iadd, 1) := by decide +kernel
theorem dL_law_1004 : decode cL_law 1004 = .ok (.iaload, 1) := by decide +kernel
theorem dL_law_1005 : decode cL_law 1005 = .ok (.aload_n 0, 1) := by decide +kernel
theorem dL_law_1006 : decode cL_law 1006 = .ok (.iload_n 3, 1) := by decide +kernel
theorem dL_law_1007 : decode cL_law 1007 = .ok (.iconst 2, 1) := by decide +kernel
theorem dL_law_1008 : decode cL_law 1008 = .ok (.iadd, 1) := by decide +kernel
theorem dL_law_1009 : decode cL_law 1009 = .ok (.iaload, 1) := by decide +kernel
theorem dL_law_1010 : decode cL_law 1010 = .ok (.invokevirtual 119, 3) := by decide +kernel
theorem dL_law_1013 : decode cL_law 1013 = .ok (.aload_n 2, 1) := by decide +kernel
theorem dL_law_1014 : decode cL_law 1014 = .ok (.aload_n 0, 1) := by decide +kernel
theorem dL_law_1015 : decode cL_law 1015 = .ok (.iload_n 3, 1) := by decide +kernel
theorem dL_law_1016 : decode cL_law 1016 = .ok (.iconst 1, 1) := by decide +kernel
theorem dL_law_1017 : decode cL_law 1017 = .ok (.iadd, 1) := by decide +kernel
theorem dL_law_1018 : decode cL_law 1018 = .ok (.iaload, 1) := by decide +kernel
theorem dL_law_1019 : decode cL_law 1019 = .ok (.aload_n 0, 1) := by decide +kernel
theorem dL_law_1020 : decode cL_law 1020 = .ok (.iload_n 3, 1) := by decide +kernel
theorem dL_law_1021 : decode cL_law 1021 = .ok (.iconst 2, 1) := by decide +kernel
theorem dL_law_1022 : decode cL_law 1022 = .ok (.iadd, 1) := by decide +kernel
theorem dL_law_1023 : decode cL_law 1023 = .ok (.iaload, 1) := by decide +kernel
theorem dL_law_1024 : decode cL_law 1024 = .ok (.invokevirtual 122, 3) := by decide +kernel
theorem dL_law_1027 : decode cL_law 1027 = .ok (.if_icmp .eq 64, 3) := by decide +kernel
theorem dL_law_1030 : decode cL_law 1030 = .ok (.iconst 0, 1) := by decide +kernel
theorem dL_law_1031 : decode cL_law 1031 = .ok (.ireturn, 1) := by decide +kernel
theorem dL_law_1032 : decode cL_law 1032 = .ok (.aload_n 1, 1) := by decide +kernel
theorem dL_law_1033 : decode cL_law 1033 = .ok (.aload_n 0, 1) := by decide +kernel
theorem dL_law_1034 : decode cL_law 1034 = .ok (.iload_n 3, 1) := by decide +kernel
theorem dL_law_1035 : decode cL_law 1035 = .ok (.iconst 1, 1) := by decide +kernel
theorem dL_law_1036 : decode cL_law 1036 = .ok (.iadd, 1) := by decide +kernel
theorem dL_law_1037 : decode cL_law 1037 = .ok (.iaload, 1) := by decide +kernel
theorem dL_law_1038 : decode cL_law 1038 = .ok (.invokevirtual 123, 3) := by decide +kernel
theorem dL_law_1041 : decode cL_law 1041 = .ok (.aload_n 2, 1) := by decide +kernel
theorem dL_law_1042 : decode cL_law 1042 = .ok (.aload_n 0, 1) := by decide +kernel
theorem dL_law_1043 : decode cL_law 1043 = .ok (.iload_n 3, 1) := by decide +kernel
theorem dL_law_1044 : decode cL_law 1044 = .ok (.iconst 1, 1) := by decide +kernel
theorem dL_law_1045 : decode cL_law 1045 = .ok (.iadd, 1) := by decide +kernel
theorem dL_law_1046 : decode cL_law 1046 = .ok (.iaload, 1) := by decide +kernel
theorem dL_law_1047 : decode cL_law 1047 = .ok (.invokevirtual 126, 3) := by decide +kernel
theorem dL_law_1050 : decode cL_law 1050 = .ok (.if_icmp .eq 41, 3) := by decide +kernel
theorem dL_law_1053 : decode cL_law 1053 = .ok (.iconst 0, 1) := by decide +kernel
theorem dL_law_1054 : decode cL_law 1054 = .ok (.ireturn, 1) := by decide +kernel
theorem dL_law_1055 : decode cL_law 1055 = .ok (.aload_n 1, 1) := by decide +kernel
theorem dL_law_1056 : decode cL_law 1056 = .ok (.aload_n 0, 1) := by decide +kernel
theorem dL_law_1057 : decode cL_law 1057 = .ok (.iload_n 3, 1) := by decide +kernel
theorem dL_law_1058 : decode cL_law 1058 = .ok (.iconst 1, 1) := by decide +kernel
theorem dL_law_1059 : decode cL_law 1059 = .ok (.iadd, 1) := by decide +kernel
theorem dL_law_1060 : decode cL_law 1060 = .ok (.iaload, 1) := by decide +kernel
theorem dL_law_1061 : decode cL_law 1061 = .ok (.invokevirtual 127, 3) := by decide +kernel
theorem dL_law_1064 : decode cL_law 1064 = .ok (.aload_n 2, 1) := by decide +kernel
theorem dL_law_1065 : decode cL_law 1065 = .ok (.aload_n 0, 1) := by decide +kernel
theorem dL_law_1066 : decode cL_law 1066 = .ok (.iload_n 3, 1) := by decide +kernel
theorem dL_law_1067 : decode cL_law 1067 = .ok (.iconst 1, 1) := by decide +kernel
theorem dL_law_1068 : decode cL_law 1068 = .ok (.iadd, 1) := by decide +kernel
theorem dL_law_1069 : decode cL_law 1069 = .ok (.iaload, 1) := by decide +kernel
theorem dL_law_1070 : decode cL_law 1070 = .ok (.invokevirtual 130, 3) := by decide +kernel
theorem dL_law_1073 : decode cL_law 1073 = .ok (.if_icmp .eq 18, 3) := by decide +kernel
theorem dL_law_1076 : decode cL_law 1076 = .ok (.iconst 0, 1) := by decide +kernel
theorem dL_law_1077 : decode cL_law 1077 = .ok (.ireturn, 1) := by decide +kernel
theorem dL_law_1078 : decode cL_law 1078 = .ok (.aload_n 1, 1) := by decide +kernel
theorem dL_law_1079 : decode cL_law 1079 = .ok (.invokevirtual 131, 3) := by decide +kernel
theorem dL_law_1082 : decode cL_law 1082 = .ok (.aload_n 2, 1) := by decide +kernel
theorem dL_law_1083 : decode cL_law 1083 = .ok (.invokevirtual 134, 3) := by decide +kernel
theorem dL_law_1086 : decode cL_law 1086 = .ok (.if_icmp .eq 5, 3) := by decide +kernel
theorem dL_law_1089 : decode cL_law 1089 = .ok (.iconst 0, 1) := by decide +kernel
theorem dL_law_1090 : decode cL_law 1090 = .ok (.ireturn, 1) := by decide +kernel
theorem dL_law_1091 : decode cL_law 1091 = .ok (.iinc 3 6, 3) := by decide +kernel
theorem dL_law_1094 : decode cL_law 1094 = .ok (.goto (-1076), 3) := by decide +kernel
theorem dL_law_1097 : decode cL_law 1097 = .ok (.iconst 1, 1) := by decide +kernel
theorem dL_law_1098 : decode cL_law 1098 = .ok (.ireturn, 1) := by decide +kernel
end
section
/-! the abstract machine: positions in place of addresses, ints by position and place, references likewise -/
abbrev MD : Type := MethodName × ByteArray × Nat × Option FieldType × Option (Nat × (Nat → Int32))
abbrev Wd : Type := (Nat → Nat → Int32) × (Nat → Nat → Option Nat)
def TB : List Cond := lw_tbl.filter goodWord
def shT : List (Nat × Nat) := [(0, 6), (3, 8), (0, 4), (1, 130), (0, 5), (1, 6), (1, 6), (1, 24), (1, 24), (1, 30), (0, 5), (1, 6), (1, 6), (1, 24), (1, 24), (1, 30), (4, 2), (0, 0), (1, 80), (0, 3), (1, 99), (1, 6), (0, 1), (1, 16), (0, 2), (1, 40), (0, 2), (1, 40), (0, 2), (1, 40), (0, 2), (1, 40), (0, 2), (1, 40), (0, 2), (1, 40), (0, 2), (1, 40), (0, 2), (1, 40), (0, 5), (1, 6), (1, 6), (1, 24), (1, 24), (1, 30), (0, 5), (1, 6), (1, 6), (1, 24), (1, 24), (1, 30), (0, 7), (1, 8), (1, 8), (1, 320), (1, 40), (1, 130), (1, 92), (1, 92), (1, 92), (1, 1472), (1, 184), (2, 2), (1, 700), (1, 6), (1, 100), (1, 16)]
def shn (n p : Nat) : Nat × Nat := if p < n then shT.getD p (9, 0) else (9, 0)
def nF (ci : Nat) : Nat := [2, 3, 3, 8, 7, 7, 10, 32].getD ci 0
def fkT : List (List Nat) := [[1], [2], [1, 2], [3, 4, 5, 6, 7], [1, 2, 3, 4, 5, 6], [5, 6], [8, 9], [4, 6, 7, 8, 9, 10, 11, 12, 17, 21, 24, 25, 26, 27, 28, 29, 31]]
def isI (ci j : Nat) : Bool := (fkT.getD ci []).contains j
def flds (ci q : Nat) (w : Wd) (ad : Nat → Nat) : List Value := (List.range (nF ci)).map (fun j => if isI ci j = true then Value.int (w.1 q j) else va_rf ((w.2 q j).map ad))
def cellOf (aC : Nat → ClassId) (w : Wd) (ad : Nat → Nat) (q : Nat) : va_E :=
  if (shT.getD q (9, 0)).1 = 0 then .inr ((shT.getD q (9, 0)).2, flds (shT.getD q (9, 0)).2 q w ad)
  else if (shT.getD q (9, 0)).1 ≤ 2 then .inl (aC (shT.getD q (9, 0)).1, (shT.getD q (9, 0)).2, .inl (w.1 q))
  else .inl (aC (shT.getD q (9, 0)).1, (shT.getD q (9, 0)).2, .inr (.inr (.inr (.inr (fun j => (w.2 q j).map ad)))))
def wsOf (aC : Nat → ClassId) (n : Nat) (w : Wd) (ad : Nat → Nat) : va_W := (List.range n).map (fun q => (ad q, cellOf aC w ad q))
def tysOf (aC : Nat → ClassId) : List (ClassId × FieldType) := [(aC 1, .int), (aC 2, .boolean), (aC 3, .object RX2), (aC 4, .object RX5)]
def cv (ad : Nat → Nat) (v : Value) : Value := match v with
  | .ref a => .ref (ad a)
  | x => x
def cvS (ad : Nat → Nat) (st : List Value) : List Value := st.map (cv ad)
def lov (ad : Nat → Nat) (v : Value) : Option Value := match v with
  | .int x => some (.int x)
  | .long x => some (.long x)
  | .ref a => some (.ref (ad a))
  | _ => none
def cvL (ad : Nat → Nat) : Nat → List Value → List (Nat × Value)
  | _, [] => []
  | i, v :: vs => (match lov ad v with | some u => [(i, u)] | none => []) ++ cvL ad (i + 1) vs
def uI (f : Nat → Nat → Int32) (p j : Nat) (x : Int32) : Nat → Nat → Int32 := fun a b => if a = p ∧ b = j then x else f a b
def uA (f : Nat → Nat → Int32) (p : Nat) (g : Nat → Int32) : Nat → Nat → Int32 := fun a => if a = p then g else f a
def uR (f : Nat → Nat → Option Nat) (p j : Nat) (x : Option Nat) : Nat → Nat → Option Nat := fun a b => if a = p ∧ b = j then x else f a b
def okS (L : List Value) (i : Nat) : Bool := match i with
  | 0 => true
  | k + 1 => match L[k]? with
    | some v => v.category != 2
    | none => true
def okV (n : Nat) (v : Value) : Bool := match v with
  | .ref a => decide (a < n) || decide (1000 ≤ a)
  | _ => true
theorem mem_cvL {ad : Nat → Nat} : ∀ (L : List Value) (i0 : Nat) (q : Nat × Value), q ∈ cvL ad i0 L ↔ ∃ (k : Nat) (v : Value), L[k]? = some v ∧ q.1 = i0 + k ∧ lov ad v = some q.2 := by
  intro L
  induction L with
  | nil => intro i0 q; simp [cvL]
  | cons v vs ih =>
    intro i0 q
    rw [cvL, List.mem_append, ih]
    constructor
    · rintro (h | ⟨k, u, h1, h2, h3⟩)
      · cases hv : lov ad v with
        | none => rw [hv] at h; simp at h
        | some u =>
          rw [hv] at h
          have h := List.mem_singleton.mp h
          subst h
          exact ⟨0, v, rfl, by simp, hv⟩
      · exact ⟨k + 1, u, by simpa using h1, by omega, h3⟩
    · rintro ⟨k, u, h1, h2, h3⟩
      cases k with
      | zero =>
        have h1 : v = u := by simpa using h1
        subst h1
        refine Or.inl ?_
        rw [h3]
        obtain ⟨a, b⟩ := q
        simp at h2 ⊢
        exact h2
      | succ k => exact Or.inr ⟨k, u, by simpa using h1, by omega, h3⟩
theorem lv_less {ls : Array Slot} {nL : Nat} {l l' : List (Nat × Value)} (h : lv_has ls nL l) (hs : ∀ q ∈ l', q ∈ l) : lv_has ls nL l' := ⟨h.1, h.2.1, fun q hq => h.2.2 q (hs q hq)⟩
theorem cvL_at {ad : Nat → Nat} {ls : Array Slot} {nL i : Nat} {L : List Value} {v u : Value} (h : lv_has ls nL (cvL ad 0 L)) (hL : L[i]? = some v) (hu : lov ad v = some u) : ls[i]? = some (.val u) := h.2.2 (i, u) ((mem_cvL L 0 (i, u)).mpr ⟨i, v, hL, by simp, hu⟩)
theorem cvL_idx {ad : Nat → Nat} {i : Nat} {L : List Value} {v u : Value} (hL : L[i]? = some v) (hu : lov ad v = some u) : ∃ k : Nat, (cvL ad 0 L)[k]? = some (i, u) := List.getElem?_of_mem ((mem_cvL L 0 (i, u)).mpr ⟨i, v, hL, by simp, hu⟩)
/-- what a store of one slot leaves -/
theorem cvL_st {ad : Nat → Nat} {ls : Array Slot} {nL i : Nat} {L : List Value} {v u : Value} (hok : okS L i = true) (hu : lov ad v = some u)
    (h : lv_has ls nL ((i, u) :: (cvL ad 0 L).filter (fun q => !(q.1 == i) && !(q.1 + 1 == i && q.2.category == 2)))) : lv_has ls nL (cvL ad 0 (L.set i v)) := by
  refine lv_less h (fun q hq => ?_)
  obtain ⟨k, z, h1, h2, h3⟩ := (mem_cvL _ 0 q).mp hq
  have h2 : q.1 = k := by omega
  by_cases hk : k = i
  · subst hk
    have hlt : k < L.length := by
      have := (List.getElem?_eq_some_iff.mp h1).1
      simpa using this
    rw [List.getElem?_set_self hlt] at h1
    cases h1
    rw [hu] at h3
    cases h3
    obtain ⟨a, b⟩ := q
    cases h2
    exact List.mem_cons_self
  · rw [List.getElem?_set_ne (fun e => hk e.symm)] at h1
    refine List.mem_cons_of_mem _ (List.mem_filter.mpr ⟨(mem_cvL L 0 q).mpr ⟨k, z, h1, by omega, h3⟩, ?_⟩)
    rw [h2]
    have e1 : (k == i) = false := by simpa using hk
    rw [e1]
    simp only [Bool.not_false, Bool.true_and, Bool.not_eq_true', Bool.and_eq_false_iff]
    by_cases h4 : k + 1 = i
    · refine Or.inr ?_
      subst h4
      have hc : z.category ≠ 2 := by
        have : okS L (k + 1) = (z.category != 2) := by simp [okS, h1]
        rw [this] at hok
        simpa using hok
      have : q.2.category = z.category := by
        cases z <;> simp [lov] at h3 <;> rw [← h3] <;> rfl
      rw [this]
      simpa using hc
    · exact Or.inl (by simpa using h4)
/-- what a store of two slots leaves -/
theorem cvL_st2 {ad : Nat → Nat} {ls : Array Slot} {nL i : Nat} {L : List Value} {v u : Value} (hok : okS L i = true) (hu : lov ad v = some u)
    (h : lv_has ls nL ((i, u) :: (cvL ad 0 L).filter (fun q => !(q.1 == i) && (!(q.1 == i + 1) && !(q.1 + 1 == i && q.2.category == 2))))) : lv_has ls nL (cvL ad 0 ((L.set i v).set (i + 1) .null)) := by
  refine lv_less h (fun q hq => ?_)
  obtain ⟨k, z, h1, h2, h3⟩ := (mem_cvL _ 0 q).mp hq
  have h2 : q.1 = k := by omega
  by_cases hk1 : k = i + 1
  · subst hk1
    have hlt : i + 1 < (L.set i v).length := by
      have := (List.getElem?_eq_some_iff.mp h1).1
      simpa using this
    rw [List.getElem?_set_self hlt] at h1
    cases h1
    simp [lov] at h3
  rw [List.getElem?_set_ne (fun e => hk1 e.symm)] at h1
  by_cases hk : k = i
  · subst hk
    have hlt : k < L.length := by
      have := (List.getElem?_eq_some_iff.mp h1).1
      simpa using this
    rw [List.getElem?_set_self hlt] at h1
    cases h1
    rw [hu] at h3
    cases h3
    obtain ⟨a, b⟩ := q
    cases h2
    exact List.mem_cons_self
  · rw [List.getElem?_set_ne (fun e => hk e.symm)] at h1
    refine List.mem_cons_of_mem _ (List.mem_filter.mpr ⟨(mem_cvL L 0 q).mpr ⟨k, z, h1, by omega, h3⟩, ?_⟩)
    rw [h2]
    have e1 : (k == i) = false := by simpa using hk
    have e2 : (k == i + 1) = false := by simpa using hk1
    rw [e1, e2]
    simp only [Bool.not_false, Bool.true_and, Bool.not_eq_true', Bool.and_eq_false_iff]
    by_cases h4 : k + 1 = i
    · refine Or.inr ?_
      subst h4
      have hc : z.category ≠ 2 := by
        have : okS L (k + 1) = (z.category != 2) := by simp [okS, h1]
        rw [this] at hok
        simpa using hok
      have : q.2.category = z.category := by
        cases z <;> simp [lov] at h3 <;> rw [← h3] <;> rfl
      rw [this]
      simpa using hc
    · exact Or.inl (by simpa using h4)
theorem cvL_move {ad ad' : Nat → Nat} {n n1 : Nat} (hn : n ≤ n1) (ha : ∀ q, q < n ∨ n1 ≤ q ∨ 1000 ≤ q → ad' q = ad q) {L : List Value} (hL : L.all (okV n) = true) : ∀ i, cvL ad' i L = cvL ad i L := by
  induction L with
  | nil => intro i; rfl
  | cons v vs ih =>
    intro i
    have h := List.all_cons.symm.trans hL
    rw [Bool.and_eq_true] at h
    rw [cvL, cvL, ih h.2]
    have : lov ad' v = lov ad v := by
      cases v <;> try rfl
      next a =>
        have h1 : a < n ∨ 1000 ≤ a := by simpa [okV] using h.1
        simp only [lov]
        rw [ha a (h1.elim Or.inl (fun z => Or.inr (Or.inr z)))]
    rw [this]
theorem cvS_move {ad ad' : Nat → Nat} {n n1 : Nat} (hn : n ≤ n1) (ha : ∀ q, q < n ∨ n1 ≤ q ∨ 1000 ≤ q → ad' q = ad q) {L : List Value} (hL : L.all (okV n) = true) : cvS ad' L = cvS ad L := by
  induction L with
  | nil => rfl
  | cons v vs ih =>
    have h := List.all_cons.symm.trans hL
    rw [Bool.and_eq_true] at h
    show cv ad' v :: cvS ad' vs = cv ad v :: cvS ad vs
    rw [ih h.2]
    have : cv ad' v = cv ad v := by
      cases v <;> try rfl
      next a =>
        have h1 : a < n ∨ 1000 ≤ a := by simpa [okV] using h.1
        simp only [cv]
        rw [ha a (h1.elim Or.inl (fun z => Or.inr (Or.inr z)))]
    rw [this]
theorem cv_cat (ad : Nat → Nat) (v : Value) : (cv ad v).category = v.category := by cases v <;> rfl
theorem cvS_sum (ad : Nat → Nat) (st : List Value) : ((cvS ad st).map fun v => v.category).sum = (st.map fun v => v.category).sum := by
  induction st with
  | nil => rfl
  | cons v vs ih =>
    show ((cv ad v).category :: ((cvS ad vs).map fun v => v.category)).sum = (v.category :: (vs.map fun v => v.category)).sum
    rw [List.sum_cons, List.sum_cons, ih, cv_cat]
theorem shn_lt {n p : Nat} {x : Nat × Nat} (h : shn n p = x) (hx : x.1 ≠ 9) : p < n ∧ shT.getD p (9, 0) = x := by
  unfold shn at h
  by_cases hp : p < n
  · rw [if_pos hp] at h; exact ⟨hp, h⟩
  · rw [if_neg hp] at h; subst h; exact absurd rfl hx
theorem wsOf_get {aC : Nat → ClassId} {n p : Nat} {w : Wd} {ad : Nat → Nat} (h : p < n) : (wsOf aC n w ad)[p]? = some (ad p, cellOf aC w ad p) := by
  simp [wsOf, h]
theorem ws_set {n p : Nat} {f g : Nat → Nat × va_E} (hg : ∀ q, q ≠ p → g q = f q) : ((List.range n).map f).set p (g p) = (List.range n).map g := by
  apply List.ext_getElem?
  intro i
  by_cases hi : i = p
  · subst hi
    by_cases hn : i < n
    · rw [List.getElem?_set_self (by simpa using hn)]
      simp [hn]
    · rw [List.getElem?_eq_none (by simpa using hn), List.getElem?_eq_none (by simpa using hn)]
  · rw [List.getElem?_set_ne (fun e => hi e.symm)]
    simp only [List.getElem?_map]
    by_cases hn : i < n
    · simp [hn, hg i hi]
    · simp [hn]
theorem wsOf_push {aC : Nat → ClassId} {n a : Nat} {w : Wd} {ad : Nat → Nat} {w' : Wd} {ad' : Nat → Nat} {x : va_E} (ha : ad' n = a) (hx : cellOf aC w' ad' n = x) (hq : ∀ q, q < n → ad' q = ad q ∧ cellOf aC w' ad' q = cellOf aC w ad q) : wsOf aC n w ad ++ [(a, x)] = wsOf aC (n + 1) w' ad' := by
  unfold wsOf
  rw [List.range_succ, List.map_append, List.map_singleton, ha, hx]
  congr 1
  apply List.map_congr_left
  intro q hq'
  have := hq q (List.mem_range.mp hq')
  rw [this.1, this.2]
theorem cell_obj {aC : Nat → ClassId} {w : Wd} {ad : Nat → Nat} {p ci : Nat} (h : shT.getD p (9, 0) = (0, ci)) : cellOf aC w ad p = .inr (ci, flds ci p w ad) := by
  unfold cellOf; rw [h]; rfl
theorem cell_arr {aC : Nat → ClassId} {w : Wd} {ad : Nat → Nat} {p t N : Nat} (h : shT.getD p (9, 0) = (t, N)) (h0 : t ≠ 0) (ht : t ≤ 2) : cellOf aC w ad p = .inl (aC t, N, .inl (w.1 p)) := by
  unfold cellOf; rw [h]; simp [h0, ht]
theorem cell_ref {aC : Nat → ClassId} {w : Wd} {ad : Nat → Nat} {p t N : Nat} (h : shT.getD p (9, 0) = (t, N)) (ht : ¬ t ≤ 2) : cellOf aC w ad p = .inl (aC t, N, .inr (.inr (.inr (.inr (fun j => (w.2 p j).map ad))))) := by
  unfold cellOf; rw [h]; rw [if_neg (by show ¬ t = 0; omega), if_neg ht]
theorem flds_get {ci p j : Nat} {w : Wd} {ad : Nat → Nat} (hj : j < nF ci) : (flds ci p w ad)[j]? = some (if isI ci j = true then Value.int (w.1 p j) else va_rf ((w.2 p j).map ad)) := by
  simp [flds, hj]
theorem flds_set {ci p j : Nat} {w w' : Wd} {ad : Nat → Nat} {v : Value} (hv : (if isI ci j = true then Value.int (w'.1 p j) else va_rf ((w'.2 p j).map ad)) = v) (h1 : ∀ b, b ≠ j → w'.1 p b = w.1 p b ∧ w'.2 p b = w.2 p b) : (flds ci p w ad).set j v = flds ci p w' ad := by
  subst hv
  unfold flds
  apply List.ext_getElem?
  intro i
  by_cases hi : i = j
  · subst hi
    by_cases hn : i < nF ci
    · rw [List.getElem?_set_self (by simpa using hn)]
      simp [hn]
    · rw [List.getElem?_eq_none (by simpa using hn), List.getElem?_eq_none (by simpa using hn)]
  · rw [List.getElem?_set_ne (fun e => hi e.symm)]
    simp only [List.getElem?_map]
    by_cases hn : i < nF ci
    · simp [hn, h1 i hi]
    · simp [hn]
theorem cell_same {aC : Nat → ClassId} {w w' : Wd} {ad ad' : Nat → Nat} {q : Nat} (h1 : w'.1 q = w.1 q) (h2 : ∀ b, (w'.2 q b).map ad' = (w.2 q b).map ad) : cellOf aC w' ad' q = cellOf aC w ad q := by
  unfold cellOf flds
  rw [h1]
  simp only [h2]
theorem uI_ne {f : Nat → Nat → Int32} {p j a : Nat} {x : Int32} (h : a ≠ p) : uI f p j x a = f a := by
  funext b; simp [uI, h]
theorem uI_eq {f : Nat → Nat → Int32} {p j : Nat} {x : Int32} : uI f p j x p j = x := by simp [uI]
theorem uA_ne {f : Nat → Nat → Int32} {p a : Nat} {x : Nat → Int32} (h : a ≠ p) : uA f p x a = f a := by simp [uA, h]
theorem uR_ne {f : Nat → Nat → Option Nat} {p j a : Nat} {x : Option Nat} (h : a ≠ p) : uR f p j x a = f a := by
  funext b; simp [uR, h]


/-! statics: CLASS_OR_BELOW, KINDS_OF_KIND, SIZE_BODIES, MARK_BODIES, at the positions 1001 .. 1004; the script at 1000 -/
def stC (k : Nat) : String × String := [(RX6, "CLASS_OR_BELOW"), (RX6, "KINDS_OF_KIND"), (RX1, "SIZE_BODIES"), (RX1, "MARK_BODIES")].getD k ("", "")
def stV (k : Nat) : List Int32 := [[15, 10, 4, 8, 15], [1, 3, 7, 11, 17, 49], [10, 11, 12, 11, 13, 14], [20, 21, 24, 22, 23, 23]].getD k []
def nestM : List (String × Nat × MethodName × String) := [("WovenCalls", 17, ⟨"WovenCalls$Tape", "<init>", "()V"⟩, "WovenCalls"), ("WovenCalls", 24, ⟨"WovenCalls$Weave", "<init>", "()V"⟩, "WovenCalls"), ("WovenCalls", 38, ⟨"WovenCalls$Acts", "<init>", "()V"⟩, "WovenCalls"), ("WovenCalls", 66, ⟨"WovenCalls$Row", "<init>", "()V"⟩, "WovenCalls"), ("WovenCalls$Tape", 102, ⟨"WovenCalls", "isWithin", "(III)Z"⟩, "WovenCalls"), ("WovenCalls$Weave", 70, ⟨"WovenCalls", "hasBit", "(II)Z"⟩, "WovenCalls"), ("WovenCalls$Run", 74, ⟨"WovenCalls", "hasBit", "(II)Z"⟩, "WovenCalls")]
def Cx (Y : MD) (p : Program) (s : State) (m : MethodId) (args : Array Value) (meth : Method) (c : Code) : Prop :=
  p.tables.exec = Jvm.exec ∧ c.code = Y.2.1 ∧ meth.sig.returnType = Y.2.2.2.1 ∧ c.maxLocals = Y.2.2.1 ∧ s.vm.findClass Y.1.cls = some m.cls ∧ (∀ w ∈ TB, w.before args s = true) ∧ meth.locks = false ∧ (Y.1.name = "<init>" → meth.name = "<init>")
def Ks (sc : Option (Nat × (Nat → Int32))) (D : va_G) (aC : Nat → ClassId) (A : Nat → Prop) (ad : Nat → Nat) (s : State) : Prop :=
  va_K D vwCl (tysOf aC) s ∧ (∀ x ∈ nestM, va_Nw (.methodLinkNest x.1 x.2.1 x.2.2.1 x.2.2.2) s) ∧ va_Nw (.fieldLinkNest "WovenCalls$Weave" 74 "WovenCalls" "CLASS_OR_BELOW" "[I" "WovenCalls") s ∧ (va_AO RX2 s ∧ va_AO RX5 s) ∧
  (∀ k, k < 4 → va_Z (stC k).1 (stC k).2 "[I" (.ref (ad (1001 + k))) A s s.heap ∧ va_T .int (ad (1001 + k)) (stV k).length (fun j => .int ((stV k).getD j 0)) A s s.heap) ∧
  (∀ x, sc = some x → va_X (ad 1000) x.1 x.2 s s.heap ∧ ad 1000 < s.heap.size ∧ ¬ A (ad 1000))
def Dy (D : va_G) (aC : Nat → ClassId) (A : Nat → Prop) (ad0 ad : Nat → Nat) (n0 n : Nat) (w : Wd) (H0 H : Heap) (locs : List Loc) : Prop :=
  va_P D vwCl (wsOf aC n w ad) H ∧ va_D A (wsOf aC n w ad) ∧ va_S A H0 H locs ∧ (∀ q, H0.size ≤ q → A q) ∧ n0 ≤ n ∧ (∀ q, q < n0 ∨ n ≤ q ∨ 1000 ≤ q → ad q = ad0 q)
abbrev Zt : Type := Array Value → List Frame → State → va_G → (Nat → ClassId) → (Nat → Prop) → (Nat → Nat) → State → Prop
/-- from this place, with these locals and this stack (positions for references), in this world, the machine comes to Z -/
def G (Y : MD) (R : Room) (Z : Zt) (n0 pc : Nat) (L st : List Value) (n : Nat) (w : Wd) (k j : Nat) : Prop :=
  ∀ (p : Program) (l : Launch) (e : Env) (s : State) (m : MethodId) (args : Array Value) (below : List Frame) (meth : Method) (c : Code) (D : va_G) (aC : Nat → ClassId) (A : Nat → Prop) (ad0 ad : Nat → Nat) (H : Heap) (locs : List Loc) (ls : Array Slot),
    Cx Y p s m args meth c → Ks Y.2.2.2.2 D aC A ad0 s → Dy D aC A ad0 ad n0 n w s.heap H locs → lv_has ls Y.2.2.1 (cvL ad 0 L) →
    W p l e R s m args below meth c H locs k j (Z args below s D aC A ad0) (F0 m pc ls (cvS ad st))
def Qm (Q : Option Int32 → Wd → Prop) (n0 n1 : Nat) (D : va_G) (aC : Nat → ClassId) (A : Nat → Prop) (ad0 : Nat → Nat) : Array Value → State → Outcome → State → Prop := fun _ st oc t =>
  (∃ (r : Option Int32) (w' : Wd) (ad' : Nat → Nat), oc = .returned (r.map Value.int) ∧ Q r w' ∧ va_P D vwCl (wsOf aC n1 w' ad') t.heap ∧ va_D A (wsOf aC n1 w' ad') ∧ n0 ≤ n1 ∧ (∀ q, q < n0 ∨ n1 ≤ q ∨ 1000 ≤ q → ad' q = ad0 q)) ∧ va_F A st t
def Zm (Q : Option Int32 → Wd → Prop) (n0 n1 mc ms : Nat) : Zt := fun args below s D aC A ad0 => MQ below (Qm Q n0 n1 D aC A ad0) args s mc ms A
def rmd (d mc ms : Nat) : Room := { frames := d, cells := mc, slots := ms, locals := 50 * d }
def wsM (Y : MD) : List Cond := .code Y.1 Y.2.1 Y.2.2.1 Y.2.2.2.1 :: TB
/-- method Y, called with these arguments in this world, comes back to Q -/
def Ex (d mc ms : Nat) (Y : MD) (av : List Value) (n : Nat) (w : Wd) (n1 : Nat) (Q : Option Int32 → Wd → Prop) : Prop :=
  ∀ (l : Launch) (D : va_G) (aC : Nat → ClassId) (ad : Nat → Nat) (sz : Nat), Met l Y.1 (wsM Y) (rmd d mc ms)
    (va_Pc (cvS ad av) (fun U => U.heap.size = sz ∧ va_P D vwCl (wsOf aC n w ad) U.heap ∧ va_D (fun _ => True) (wsOf aC n w ad) ∧ Ks none D aC (va_A (wsOf aC n w ad) sz) ad U))
    (Qm Q n n1 D aC (va_A (wsOf aC n w ad) sz) ad) mc ms (va_A (wsOf aC n w ad) sz)

theorem g_iadd {Y : MD} {R : Room} {Z : Zt} {n0 pc q n k j : Nat} {L st : List Value} {w : Wd} {x y : Int32} (hd : decode Y.2.1 pc = .ok (.iadd, 1)) (hq : pc + 1 = q)  (h : G Y R Z n0 q L (.int (x + y) :: st) n w k j) : G Y R Z n0 pc L (.int y :: .int x :: st) n w k j := by
  intro p l e s m args below meth c D aC A ad0 ad H locs ls hC hK hY hl
  subst hq
  exact lv_iadd hC.1 hC.2.1 hd (h p l e s m args below meth c D aC A ad0 ad H locs ls hC hK hY hl)
theorem g_isub {Y : MD} {R : Room} {Z : Zt} {n0 pc q n k j : Nat} {L st : List Value} {w : Wd} {x y : Int32} (hd : decode Y.2.1 pc = .ok (.isub, 1)) (hq : pc + 1 = q)  (h : G Y R Z n0 q L (.int (x - y) :: st) n w k j) : G Y R Z n0 pc L (.int y :: .int x :: st) n w k j := by
  intro p l e s m args below meth c D aC A ad0 ad H locs ls hC hK hY hl
  subst hq
  exact lv_isub hC.1 hC.2.1 hd (h p l e s m args below meth c D aC A ad0 ad H locs ls hC hK hY hl)
theorem g_imul {Y : MD} {R : Room} {Z : Zt} {n0 pc q n k j : Nat} {L st : List Value} {w : Wd} {x y : Int32} (hd : decode Y.2.1 pc = .ok (.imul, 1)) (hq : pc + 1 = q)  (h : G Y R Z n0 q L (.int (x * y) :: st) n w k j) : G Y R Z n0 pc L (.int y :: .int x :: st) n w k j := by
  intro p l e s m args below meth c D aC A ad0 ad H locs ls hC hK hY hl
  subst hq
  exact lv_imul hC.1 hC.2.1 hd (h p l e s m args below meth c D aC A ad0 ad H locs ls hC hK hY hl)
theorem g_iand {Y : MD} {R : Room} {Z : Zt} {n0 pc q n k j : Nat} {L st : List Value} {w : Wd} {x y : Int32} (hd : decode Y.2.1 pc = .ok (.iand, 1)) (hq : pc + 1 = q)  (h : G Y R Z n0 q L (.int (x &&& y) :: st) n w k j) : G Y R Z n0 pc L (.int y :: .int x :: st) n w k j := by
  intro p l e s m args below meth c D aC A ad0 ad H locs ls hC hK hY hl
  subst hq
  exact lv_iand hC.1 hC.2.1 hd (h p l e s m args below meth c D aC A ad0 ad H locs ls hC hK hY hl)
theorem g_ior {Y : MD} {R : Room} {Z : Zt} {n0 pc q n k j : Nat} {L st : List Value} {w : Wd} {x y : Int32} (hd : decode Y.2.1 pc = .ok (.ior, 1)) (hq : pc + 1 = q)  (h : G Y R Z n0 q L (.int (x ||| y) :: st) n w k j) : G Y R Z n0 pc L (.int y :: .int x :: st) n w k j := by
  intro p l e s m args below meth c D aC A ad0 ad H locs ls hC hK hY hl
  subst hq
  exact lv_ior hC.1 hC.2.1 hd (h p l e s m args below meth c D aC A ad0 ad H locs ls hC hK hY hl)
theorem g_ishl {Y : MD} {R : Room} {Z : Zt} {n0 pc q n k j : Nat} {L st : List Value} {w : Wd} {x y : Int32} (hd : decode Y.2.1 pc = .ok (.ishl, 1)) (hq : pc + 1 = q)  (h : G Y R Z n0 q L (.int (x <<< (y &&& 31)) :: st) n w k j) : G Y R Z n0 pc L (.int y :: .int x :: st) n w k j := by
  intro p l e s m args below meth c D aC A ad0 ad H locs ls hC hK hY hl
  subst hq
  exact lv_ishl hC.1 hC.2.1 hd (h p l e s m args below meth c D aC A ad0 ad H locs ls hC hK hY hl)
theorem g_ishr {Y : MD} {R : Room} {Z : Zt} {n0 pc q n k j : Nat} {L st : List Value} {w : Wd} {x y : Int32} (hd : decode Y.2.1 pc = .ok (.ishr, 1)) (hq : pc + 1 = q)  (h : G Y R Z n0 q L (.int (x >>> (y &&& 31)) :: st) n w k j) : G Y R Z n0 pc L (.int y :: .int x :: st) n w k j := by
  intro p l e s m args below meth c D aC A ad0 ad H locs ls hC hK hY hl
  subst hq
  exact lv_ishr hC.1 hC.2.1 hd (h p l e s m args below meth c D aC A ad0 ad H locs ls hC hK hY hl)
theorem g_idiv {Y : MD} {R : Room} {Z : Zt} {n0 pc q n k j : Nat} {L st : List Value} {w : Wd} {x y : Int32} (hd : decode Y.2.1 pc = .ok (.idiv, 1)) (hq : pc + 1 = q) (hne : ¬ y = 0) (h : G Y R Z n0 q L (.int (x / y) :: st) n w k j) : G Y R Z n0 pc L (.int y :: .int x :: st) n w k j := by
  intro p l e s m args below meth c D aC A ad0 ad H locs ls hC hK hY hl
  subst hq
  exact lv_idiv hC.1 hC.2.1 hd hne (h p l e s m args below meth c D aC A ad0 ad H locs ls hC hK hY hl)
theorem g_irem {Y : MD} {R : Room} {Z : Zt} {n0 pc q n k j : Nat} {L st : List Value} {w : Wd} {x y : Int32} (hd : decode Y.2.1 pc = .ok (.irem, 1)) (hq : pc + 1 = q) (hne : ¬ y = 0) (h : G Y R Z n0 q L (.int (x - x / y * y) :: st) n w k j) : G Y R Z n0 pc L (.int y :: .int x :: st) n w k j := by
  intro p l e s m args below meth c D aC A ad0 ad H locs ls hC hK hY hl
  subst hq
  exact lv_irem hC.1 hC.2.1 hd hne (h p l e s m args below meth c D aC A ad0 ad H locs ls hC hK hY hl)
theorem g_lmul {Y : MD} {R : Room} {Z : Zt} {n0 pc q n k j : Nat} {L st : List Value} {w : Wd} {x y : Int64} (hd : decode Y.2.1 pc = .ok (.lmul, 1)) (hq : pc + 1 = q)  (h : G Y R Z n0 q L (.long (x * y) :: st) n w k j) : G Y R Z n0 pc L (.long y :: .long x :: st) n w k j := by
  intro p l e s m args below meth c D aC A ad0 ad H locs ls hC hK hY hl
  subst hq
  exact lv_lmul hC.1 hC.2.1 hd (h p l e s m args below meth c D aC A ad0 ad H locs ls hC hK hY hl)
theorem g_ldiv {Y : MD} {R : Room} {Z : Zt} {n0 pc q n k j : Nat} {L st : List Value} {w : Wd} {x y : Int64} (hd : decode Y.2.1 pc = .ok (.ldiv, 1)) (hq : pc + 1 = q) (hne : ¬ y = 0) (h : G Y R Z n0 q L (.long (x / y) :: st) n w k j) : G Y R Z n0 pc L (.long y :: .long x :: st) n w k j := by
  intro p l e s m args below meth c D aC A ad0 ad H locs ls hC hK hY hl
  subst hq
  exact lv_ldiv hC.1 hC.2.1 hd hne (h p l e s m args below meth c D aC A ad0 ad H locs ls hC hK hY hl)
theorem g_lrem {Y : MD} {R : Room} {Z : Zt} {n0 pc q n k j : Nat} {L st : List Value} {w : Wd} {x y : Int64} (hd : decode Y.2.1 pc = .ok (.lrem, 1)) (hq : pc + 1 = q) (hne : ¬ y = 0) (h : G Y R Z n0 q L (.long (x - x / y * y) :: st) n w k j) : G Y R Z n0 pc L (.long y :: .long x :: st) n w k j := by
  intro p l e s m args below meth c D aC A ad0 ad H locs ls hC hK hY hl
  subst hq
  exact lv_lrem hC.1 hC.2.1 hd hne (h p l e s m args below meth c D aC A ad0 ad H locs ls hC hK hY hl)
theorem g_ineg {Y : MD} {R : Room} {Z : Zt} {n0 pc q n k j : Nat} {L st : List Value} {w : Wd} {x : Int32} (hd : decode Y.2.1 pc = .ok (.ineg, 1)) (hq : pc + 1 = q)  (h : G Y R Z n0 q L (.int (-x) :: st) n w k j) : G Y R Z n0 pc L (.int x :: st) n w k j := by
  intro p l e s m args below meth c D aC A ad0 ad H locs ls hC hK hY hl
  subst hq
  exact lv_ineg hC.1 hC.2.1 hd (h p l e s m args below meth c D aC A ad0 ad H locs ls hC hK hY hl)
theorem g_i2l {Y : MD} {R : Room} {Z : Zt} {n0 pc q n k j : Nat} {L st : List Value} {w : Wd} {x : Int32} (hd : decode Y.2.1 pc = .ok (.i2l, 1)) (hq : pc + 1 = q)  (h : G Y R Z n0 q L (.long x.toInt64 :: st) n w k j) : G Y R Z n0 pc L (.int x :: st) n w k j := by
  intro p l e s m args below meth c D aC A ad0 ad H locs ls hC hK hY hl
  subst hq
  exact lv_i2l hC.1 hC.2.1 hd rfl (h p l e s m args below meth c D aC A ad0 ad H locs ls hC hK hY hl)
theorem g_l2i {Y : MD} {R : Room} {Z : Zt} {n0 pc q n k j : Nat} {L st : List Value} {w : Wd} {x : Int64} (hd : decode Y.2.1 pc = .ok (.l2i, 1)) (hq : pc + 1 = q)  (h : G Y R Z n0 q L (.int x.toInt32 :: st) n w k j) : G Y R Z n0 pc L (.long x :: st) n w k j := by
  intro p l e s m args below meth c D aC A ad0 ad H locs ls hC hK hY hl
  subst hq
  exact lv_l2i hC.1 hC.2.1 hd rfl (h p l e s m args below meth c D aC A ad0 ad H locs ls hC hK hY hl)
theorem g_i2b {Y : MD} {R : Room} {Z : Zt} {n0 pc q n k j : Nat} {L st : List Value} {w : Wd} {x : Int32} (hd : decode Y.2.1 pc = .ok (.i2b, 1)) (hq : pc + 1 = q)  (h : G Y R Z n0 q L (.int x.toInt8.toInt32 :: st) n w k j) : G Y R Z n0 pc L (.int x :: st) n w k j := by
  intro p l e s m args below meth c D aC A ad0 ad H locs ls hC hK hY hl
  subst hq
  exact lv_i2b hC.1 hC.2.1 hd rfl (h p l e s m args below meth c D aC A ad0 ad H locs ls hC hK hY hl)
theorem g_i2s {Y : MD} {R : Room} {Z : Zt} {n0 pc q n k j : Nat} {L st : List Value} {w : Wd} {x : Int32} (hd : decode Y.2.1 pc = .ok (.i2s, 1)) (hq : pc + 1 = q)  (h : G Y R Z n0 q L (.int x.toInt16.toInt32 :: st) n w k j) : G Y R Z n0 pc L (.int x :: st) n w k j := by
  intro p l e s m args below meth c D aC A ad0 ad H locs ls hC hK hY hl
  subst hq
  exact lv_i2s hC.1 hC.2.1 hd rfl (h p l e s m args below meth c D aC A ad0 ad H locs ls hC hK hY hl)
theorem g_iconst {Y : MD} {R : Room} {Z : Zt} {n0 pc q n k j : Nat} {L st : List Value} {w : Wd} {i : Int} {v : Int32} (hd : decode Y.2.1 pc = .ok (.iconst i, 1)) (hq : pc + 1 = q) (hv : Int32.ofInt i = v) (h : G Y R Z n0 q L (.int v :: st) n w k j) : G Y R Z n0 pc L st n w k j := by
  intro p l e s m args below meth c D aC A ad0 ad H locs ls hC hK hY hl
  subst hq
  exact lv_iconst hC.1 hC.2.1 hd hv (h p l e s m args below meth c D aC A ad0 ad H locs ls hC hK hY hl)
theorem g_bipush {Y : MD} {R : Room} {Z : Zt} {n0 pc q n k j : Nat} {L st : List Value} {w : Wd} {i : Int} {v : Int32} (hd : decode Y.2.1 pc = .ok (.bipush i, 2)) (hq : pc + 2 = q) (hv : (Int8.ofInt i).toInt32 = v) (h : G Y R Z n0 q L (.int v :: st) n w k j) : G Y R Z n0 pc L st n w k j := by
  intro p l e s m args below meth c D aC A ad0 ad H locs ls hC hK hY hl
  subst hq
  exact lv_bipush hC.1 hC.2.1 hd hv (h p l e s m args below meth c D aC A ad0 ad H locs ls hC hK hY hl)
theorem g_sipush {Y : MD} {R : Room} {Z : Zt} {n0 pc q n k j : Nat} {L st : List Value} {w : Wd} {i : Int} {v : Int32} (hd : decode Y.2.1 pc = .ok (.sipush i, 3)) (hq : pc + 3 = q) (hv : (Int16.ofInt i).toInt32 = v) (h : G Y R Z n0 q L (.int v :: st) n w k j) : G Y R Z n0 pc L st n w k j := by
  intro p l e s m args below meth c D aC A ad0 ad H locs ls hC hK hY hl
  subst hq
  exact lv_sipush hC.1 hC.2.1 hd hv (h p l e s m args below meth c D aC A ad0 ad H locs ls hC hK hY hl)
theorem g_ldc {Y : MD} {R : Room} {Z : Zt} {n0 pc q n k j : Nat} {L st : List Value} {w : Wd} {i : Nat} {v : Int32} (hd : decode Y.2.1 pc = .ok (.ldc i, 2)) (hq : pc + 2 = q) (hw : Cond.constant Y.1.cls i v ∈ TB) (h : G Y R Z n0 q L (.int v :: st) n w k j) : G Y R Z n0 pc L st n w k j := by
  intro p l e s m args below meth c D aC A ad0 ad H locs ls hC hK hY hl
  subst hq
  exact lv_ldc hC.1 hC.2.1 hC.2.2.2.2.1 (hC.2.2.2.2.2.1 _ hw) hd (h p l e s m args below meth c D aC A ad0 ad H locs ls hC hK hY hl)
theorem g_ldcw {Y : MD} {R : Room} {Z : Zt} {n0 pc q n k j : Nat} {L st : List Value} {w : Wd} {i : Nat} {v : Int32} (hd : decode Y.2.1 pc = .ok (.ldc_w i, 3)) (hq : pc + 3 = q) (hw : Cond.constant Y.1.cls i v ∈ TB) (h : G Y R Z n0 q L (.int v :: st) n w k j) : G Y R Z n0 pc L st n w k j := by
  intro p l e s m args below meth c D aC A ad0 ad H locs ls hC hK hY hl
  subst hq
  exact lv_ldcw hC.1 hC.2.1 hC.2.2.2.2.1 (hC.2.2.2.2.2.1 _ hw) hd (h p l e s m args below meth c D aC A ad0 ad H locs ls hC hK hY hl)
theorem g_ldc2 {Y : MD} {R : Room} {Z : Zt} {n0 pc q n k j : Nat} {L st : List Value} {w : Wd} {i : Nat} {v : Int64} (hd : decode Y.2.1 pc = .ok (.ldc2_w i, 3)) (hq : pc + 3 = q) (hw : Cond.constantLong Y.1.cls i v ∈ TB) (h : G Y R Z n0 q L (.long v :: st) n w k j) : G Y R Z n0 pc L st n w k j := by
  intro p l e s m args below meth c D aC A ad0 ad H locs ls hC hK hY hl
  subst hq
  exact lv_ldc2 hC.1 hC.2.1 hC.2.2.2.2.1 (hC.2.2.2.2.2.1 _ hw) hd (h p l e s m args below meth c D aC A ad0 ad H locs ls hC hK hY hl)
theorem g_dup {Y : MD} {R : Room} {Z : Zt} {n0 pc q n k j : Nat} {L st : List Value} {w : Wd} {v : Value} (hd : decode Y.2.1 pc = .ok (.dup, 1)) (hq : pc + 1 = q) (hv : v.category = 1) (h : G Y R Z n0 q L (v :: v :: st) n w k j) : G Y R Z n0 pc L (v :: st) n w k j := by
  intro p l e s m args below meth c D aC A ad0 ad H locs ls hC hK hY hl
  subst hq
  exact lv_dup hC.1 hC.2.1 hd ((cv_cat ad v).trans hv) (h p l e s m args below meth c D aC A ad0 ad H locs ls hC hK hY hl)
theorem g_dup2 {Y : MD} {R : Room} {Z : Zt} {n0 pc q n k j : Nat} {L st : List Value} {w : Wd} {v u : Value} (hd : decode Y.2.1 pc = .ok (.dup2, 1)) (hq : pc + 1 = q) (hv : v.category = 1) (hu : u.category = 1) (h : G Y R Z n0 q L (v :: u :: v :: u :: st) n w k j) : G Y R Z n0 pc L (v :: u :: st) n w k j := by
  intro p l e s m args below meth c D aC A ad0 ad H locs ls hC hK hY hl
  subst hq
  exact lv_dup2_11 hC.1 hC.2.1 hd ((cv_cat ad v).trans hv) ((cv_cat ad u).trans hu) (h p l e s m args below meth c D aC A ad0 ad H locs ls hC hK hY hl)
theorem g_pop {Y : MD} {R : Room} {Z : Zt} {n0 pc q n k j : Nat} {L st : List Value} {w : Wd} {v : Value} (hd : decode Y.2.1 pc = .ok (.pop, 1)) (hq : pc + 1 = q) (hv : v.category = 1) (h : G Y R Z n0 q L st n w k j) : G Y R Z n0 pc L (v :: st) n w k j := by
  intro p l e s m args below meth c D aC A ad0 ad H locs ls hC hK hY hl
  subst hq
  exact lv_pop hC.1 hC.2.1 hd ((cv_cat ad v).trans hv) (h p l e s m args below meth c D aC A ad0 ad H locs ls hC hK hY hl)
theorem g_iload_n {Y : MD} {R : Room} {Z : Zt} {n0 pc q n k j : Nat} {L st : List Value} {w : Wd} {i : Fin 4} {x : Int32} (hd : decode Y.2.1 pc = .ok (.iload_n i, 1)) (hq : pc + 1 = q) (hL : L[(i : Nat)]? = some (.int x)) (h : G Y R Z n0 q L (.int x :: st) n w k j) : G Y R Z n0 pc L st n w k j := by
  intro p l e s m args below meth c D aC A ad0 ad H locs ls hC hK hY hl
  subst hq
  exact lv_iload_n hC.1 hC.2.1 hd rfl (cvL_at hl hL rfl) (h p l e s m args below meth c D aC A ad0 ad H locs ls hC hK hY hl)
theorem g_iload {Y : MD} {R : Room} {Z : Zt} {n0 pc q n k j : Nat} {L st : List Value} {w : Wd} {i : Nat} {x : Int32} (hd : decode Y.2.1 pc = .ok (.iload i, 2)) (hq : pc + 2 = q) (hL : L[i]? = some (.int x)) (h : G Y R Z n0 q L (.int x :: st) n w k j) : G Y R Z n0 pc L st n w k j := by
  intro p l e s m args below meth c D aC A ad0 ad H locs ls hC hK hY hl
  subst hq
  exact lv_iload hC.1 hC.2.1 hd (cvL_at hl hL rfl) (h p l e s m args below meth c D aC A ad0 ad H locs ls hC hK hY hl)
theorem g_aload_n {Y : MD} {R : Room} {Z : Zt} {n0 pc q n k j : Nat} {L st : List Value} {w : Wd} {i : Fin 4} {x : Nat} (hd : decode Y.2.1 pc = .ok (.aload_n i, 1)) (hq : pc + 1 = q) (hL : L[(i : Nat)]? = some (.ref x)) (h : G Y R Z n0 q L (.ref x :: st) n w k j) : G Y R Z n0 pc L st n w k j := by
  intro p l e s m args below meth c D aC A ad0 ad H locs ls hC hK hY hl
  subst hq
  exact lv_aload_n hC.1 hC.2.1 hd rfl (cvL_at hl hL rfl) (h p l e s m args below meth c D aC A ad0 ad H locs ls hC hK hY hl)
theorem g_aload {Y : MD} {R : Room} {Z : Zt} {n0 pc q n k j : Nat} {L st : List Value} {w : Wd} {i : Nat} {x : Nat} (hd : decode Y.2.1 pc = .ok (.aload i, 2)) (hq : pc + 2 = q) (hL : L[i]? = some (.ref x)) (h : G Y R Z n0 q L (.ref x :: st) n w k j) : G Y R Z n0 pc L st n w k j := by
  intro p l e s m args below meth c D aC A ad0 ad H locs ls hC hK hY hl
  subst hq
  exact lv_aload hC.1 hC.2.1 hd (cvL_at hl hL rfl) (h p l e s m args below meth c D aC A ad0 ad H locs ls hC hK hY hl)
theorem g_lload {Y : MD} {R : Room} {Z : Zt} {n0 pc q n k j : Nat} {L st : List Value} {w : Wd} {i : Nat} {x : Int64} (hd : decode Y.2.1 pc = .ok (.lload i, 2)) (hq : pc + 2 = q) (hL : L[i]? = some (.long x)) (h : G Y R Z n0 q L (.long x :: st) n w k j) : G Y R Z n0 pc L st n w k j := by
  intro p l e s m args below meth c D aC A ad0 ad H locs ls hC hK hY hl
  subst hq
  exact lv_lload hC.1 hC.2.1 hd (cvL_at hl hL rfl) (h p l e s m args below meth c D aC A ad0 ad H locs ls hC hK hY hl)
theorem g_istore_n {Y : MD} {R : Room} {Z : Zt} {n0 pc q n k j : Nat} {L st : List Value} {w : Wd} {L2 : List Value} {i : Fin 4} {x : Int32} (hd : decode Y.2.1 pc = .ok (.istore_n i, 1)) (hq : pc + 1 = q) (hi : (i : Nat) < Y.2.2.1) (hok : okS L i = true) (hL2 : L.set i (.int x) = L2) (h : G Y R Z n0 q L2 st n w k j) : G Y R Z n0 pc L (.int x :: st) n w k j := by
  intro p l e s m args below meth c D aC A ad0 ad H locs ls hC hK hY hl
  subst hq hL2
  exact lv_istore_n hC.1 hC.2.1 hd rfl hl hi rfl (fun ls1 hl1 => h p l e s m args below meth c D aC A ad0 ad H locs ls1 hC hK hY (cvL_st hok rfl hl1))
theorem g_istore {Y : MD} {R : Room} {Z : Zt} {n0 pc q n k j : Nat} {L st : List Value} {w : Wd} {L2 : List Value} {i : Nat} {x : Int32} (hd : decode Y.2.1 pc = .ok (.istore i, 2)) (hq : pc + 2 = q) (hi : i < Y.2.2.1) (hok : okS L i = true) (hL2 : L.set i (.int x) = L2) (h : G Y R Z n0 q L2 st n w k j) : G Y R Z n0 pc L (.int x :: st) n w k j := by
  intro p l e s m args below meth c D aC A ad0 ad H locs ls hC hK hY hl
  subst hq hL2
  exact lv_istore hC.1 hC.2.1 hd hl hi rfl (fun ls1 hl1 => h p l e s m args below meth c D aC A ad0 ad H locs ls1 hC hK hY (cvL_st hok rfl hl1))
theorem g_astore_n {Y : MD} {R : Room} {Z : Zt} {n0 pc q n k j : Nat} {L st : List Value} {w : Wd} {L2 : List Value} {i : Fin 4} {x : Nat} (hd : decode Y.2.1 pc = .ok (.astore_n i, 1)) (hq : pc + 1 = q) (hi : (i : Nat) < Y.2.2.1) (hok : okS L i = true) (hL2 : L.set i (.ref x) = L2) (h : G Y R Z n0 q L2 st n w k j) : G Y R Z n0 pc L (.ref x :: st) n w k j := by
  intro p l e s m args below meth c D aC A ad0 ad H locs ls hC hK hY hl
  subst hq hL2
  exact lv_astore_n hC.1 hC.2.1 hd rfl hl hi rfl (fun ls1 hl1 => h p l e s m args below meth c D aC A ad0 ad H locs ls1 hC hK hY (cvL_st hok rfl hl1))
theorem g_astore {Y : MD} {R : Room} {Z : Zt} {n0 pc q n k j : Nat} {L st : List Value} {w : Wd} {L2 : List Value} {i : Nat} {x : Nat} (hd : decode Y.2.1 pc = .ok (.astore i, 2)) (hq : pc + 2 = q) (hi : i < Y.2.2.1) (hok : okS L i = true) (hL2 : L.set i (.ref x) = L2) (h : G Y R Z n0 q L2 st n w k j) : G Y R Z n0 pc L (.ref x :: st) n w k j := by
  intro p l e s m args below meth c D aC A ad0 ad H locs ls hC hK hY hl
  subst hq hL2
  exact lv_astore hC.1 hC.2.1 hd hl hi rfl (fun ls1 hl1 => h p l e s m args below meth c D aC A ad0 ad H locs ls1 hC hK hY (cvL_st hok rfl hl1))
theorem g_lstore {Y : MD} {R : Room} {Z : Zt} {n0 pc q n k j : Nat} {L st : List Value} {w : Wd} {L2 : List Value} {i : Nat} {x : Int64} (hd : decode Y.2.1 pc = .ok (.lstore i, 2)) (hq : pc + 2 = q) (hi : i + 1 < Y.2.2.1) (hok : okS L i = true) (hL2 : (L.set i (.long x)).set (i + 1) .null = L2) (h : G Y R Z n0 q L2 st n w k j) : G Y R Z n0 pc L (.long x :: st) n w k j := by
  intro p l e s m args below meth c D aC A ad0 ad H locs ls hC hK hY hl
  subst hq hL2
  exact lv_lstore hC.1 hC.2.1 hd hl hi rfl (fun ls1 hl1 => h p l e s m args below meth c D aC A ad0 ad H locs ls1 hC hK hY (cvL_st2 hok rfl hl1))
theorem g_iinc {Y : MD} {R : Room} {Z : Zt} {n0 pc q n k j : Nat} {L st : List Value} {w : Wd} {L2 : List Value} {i : Nat} {d : Int} {x : Int32} (hd : decode Y.2.1 pc = .ok (.iinc i d, 3)) (hq : pc + 3 = q) (hL : L[i]? = some (.int x)) (hi : i < Y.2.2.1) (hok : okS L i = true) (hL2 : L.set i (.int (x + Int32.ofInt d)) = L2) (h : G Y R Z n0 q L2 st n w k j) : G Y R Z n0 pc L st n w k j := by
  intro p l e s m args below meth c D aC A ad0 ad H locs ls hC hK hY hl
  subst hq hL2
  obtain ⟨k0, hk0⟩ := cvL_idx (ad := ad) hL rfl
  exact lv_iinc hC.1 hC.2.1 hd hl hk0 rfl hi rfl (fun ls1 hl1 => h p l e s m args below meth c D aC A ad0 ad H locs ls1 hC hK hY (cvL_st hok rfl hl1))
theorem g_goto {Y : MD} {R : Room} {Z : Zt} {n0 pc q n k j : Nat} {L st : List Value} {w : Wd} {d : Int} (hd : decode Y.2.1 pc = .ok (.goto d, 3)) (hq : (pc : Int) + d = (q : Int)) (h : G Y R Z n0 q L st n w k j) : G Y R Z n0 pc L st n w k j := by
  intro p l e s m args below meth c D aC A ad0 ad H locs ls hC hK hY hl
  exact lv_goto hC.1 hC.2.1 hd hq (h p l e s m args below meth c D aC A ad0 ad H locs ls hC hK hY hl)
theorem g_if_eq {Y : MD} {R : Room} {Z : Zt} {n0 pc q n k j : Nat} {L st : List Value} {w : Wd} {d : Int} {tgt : Nat} {x : Int32} (hd : decode Y.2.1 pc = .ok (.ifCond .eq d, 3)) (ht : (pc : Int) + d = (tgt : Int)) (hq : pc + 3 = q) (h1 : x = 0 → G Y R Z n0 tgt L st n w k j) (h2 : ¬ x = 0 → G Y R Z n0 q L st n w k j) : G Y R Z n0 pc L (.int x :: st) n w k j := by
  intro p l e s m args below meth c D aC A ad0 ad H locs ls hC hK hY hl
  subst hq
  exact lv_if_eq hC.1 hC.2.1 hd ht (fun h0 => h1 h0 p l e s m args below meth c D aC A ad0 ad H locs ls hC hK hY hl) (fun h0 => h2 h0 p l e s m args below meth c D aC A ad0 ad H locs ls hC hK hY hl)
theorem g_icmp_eq {Y : MD} {R : Room} {Z : Zt} {n0 pc q n k j : Nat} {L st : List Value} {w : Wd} {d : Int} {tgt : Nat} {x y : Int32} (hd : decode Y.2.1 pc = .ok (.if_icmp .eq d, 3)) (ht : (pc : Int) + d = (tgt : Int)) (hq : pc + 3 = q) (h1 : x = y → G Y R Z n0 tgt L st n w k j) (h2 : ¬ x = y → G Y R Z n0 q L st n w k j) : G Y R Z n0 pc L (.int y :: .int x :: st) n w k j := by
  intro p l e s m args below meth c D aC A ad0 ad H locs ls hC hK hY hl
  subst hq
  exact lv_icmp_eq hC.1 hC.2.1 hd ht (fun h0 => h1 h0 p l e s m args below meth c D aC A ad0 ad H locs ls hC hK hY hl) (fun h0 => h2 h0 p l e s m args below meth c D aC A ad0 ad H locs ls hC hK hY hl)
theorem g_if_ne {Y : MD} {R : Room} {Z : Zt} {n0 pc q n k j : Nat} {L st : List Value} {w : Wd} {d : Int} {tgt : Nat} {x : Int32} (hd : decode Y.2.1 pc = .ok (.ifCond .ne d, 3)) (ht : (pc : Int) + d = (tgt : Int)) (hq : pc + 3 = q) (h1 : ¬ x = 0 → G Y R Z n0 tgt L st n w k j) (h2 : x = 0 → G Y R Z n0 q L st n w k j) : G Y R Z n0 pc L (.int x :: st) n w k j := by
  intro p l e s m args below meth c D aC A ad0 ad H locs ls hC hK hY hl
  subst hq
  exact lv_if_ne hC.1 hC.2.1 hd ht (fun h0 => h1 h0 p l e s m args below meth c D aC A ad0 ad H locs ls hC hK hY hl) (fun h0 => h2 h0 p l e s m args below meth c D aC A ad0 ad H locs ls hC hK hY hl)
theorem g_icmp_ne {Y : MD} {R : Room} {Z : Zt} {n0 pc q n k j : Nat} {L st : List Value} {w : Wd} {d : Int} {tgt : Nat} {x y : Int32} (hd : decode Y.2.1 pc = .ok (.if_icmp .ne d, 3)) (ht : (pc : Int) + d = (tgt : Int)) (hq : pc + 3 = q) (h1 : ¬ x = y → G Y R Z n0 tgt L st n w k j) (h2 : x = y → G Y R Z n0 q L st n w k j) : G Y R Z n0 pc L (.int y :: .int x :: st) n w k j := by
  intro p l e s m args below meth c D aC A ad0 ad H locs ls hC hK hY hl
  subst hq
  exact lv_icmp_ne hC.1 hC.2.1 hd ht (fun h0 => h1 h0 p l e s m args below meth c D aC A ad0 ad H locs ls hC hK hY hl) (fun h0 => h2 h0 p l e s m args below meth c D aC A ad0 ad H locs ls hC hK hY hl)
theorem g_if_lt {Y : MD} {R : Room} {Z : Zt} {n0 pc q n k j : Nat} {L st : List Value} {w : Wd} {d : Int} {tgt : Nat} {x : Int32} (hd : decode Y.2.1 pc = .ok (.ifCond .lt d, 3)) (ht : (pc : Int) + d = (tgt : Int)) (hq : pc + 3 = q) (h1 : x < 0 → G Y R Z n0 tgt L st n w k j) (h2 : ¬ x < 0 → G Y R Z n0 q L st n w k j) : G Y R Z n0 pc L (.int x :: st) n w k j := by
  intro p l e s m args below meth c D aC A ad0 ad H locs ls hC hK hY hl
  subst hq
  exact lv_if_lt hC.1 hC.2.1 hd ht (fun h0 => h1 h0 p l e s m args below meth c D aC A ad0 ad H locs ls hC hK hY hl) (fun h0 => h2 h0 p l e s m args below meth c D aC A ad0 ad H locs ls hC hK hY hl)
theorem g_icmp_lt {Y : MD} {R : Room} {Z : Zt} {n0 pc q n k j : Nat} {L st : List Value} {w : Wd} {d : Int} {tgt : Nat} {x y : Int32} (hd : decode Y.2.1 pc = .ok (.if_icmp .lt d, 3)) (ht : (pc : Int) + d = (tgt : Int)) (hq : pc + 3 = q) (h1 : x < y → G Y R Z n0 tgt L st n w k j) (h2 : ¬ x < y → G Y R Z n0 q L st n w k j) : G Y R Z n0 pc L (.int y :: .int x :: st) n w k j := by
  intro p l e s m args below meth c D aC A ad0 ad H locs ls hC hK hY hl
  subst hq
  exact lv_icmp_lt hC.1 hC.2.1 hd ht (fun h0 => h1 h0 p l e s m args below meth c D aC A ad0 ad H locs ls hC hK hY hl) (fun h0 => h2 h0 p l e s m args below meth c D aC A ad0 ad H locs ls hC hK hY hl)
theorem g_if_ge {Y : MD} {R : Room} {Z : Zt} {n0 pc q n k j : Nat} {L st : List Value} {w : Wd} {d : Int} {tgt : Nat} {x : Int32} (hd : decode Y.2.1 pc = .ok (.ifCond .ge d, 3)) (ht : (pc : Int) + d = (tgt : Int)) (hq : pc + 3 = q) (h1 : 0 ≤ x → G Y R Z n0 tgt L st n w k j) (h2 : ¬ 0 ≤ x → G Y R Z n0 q L st n w k j) : G Y R Z n0 pc L (.int x :: st) n w k j := by
  intro p l e s m args below meth c D aC A ad0 ad H locs ls hC hK hY hl
  subst hq
  exact lv_if_ge hC.1 hC.2.1 hd ht (fun h0 => h1 h0 p l e s m args below meth c D aC A ad0 ad H locs ls hC hK hY hl) (fun h0 => h2 h0 p l e s m args below meth c D aC A ad0 ad H locs ls hC hK hY hl)
theorem g_icmp_ge {Y : MD} {R : Room} {Z : Zt} {n0 pc q n k j : Nat} {L st : List Value} {w : Wd} {d : Int} {tgt : Nat} {x y : Int32} (hd : decode Y.2.1 pc = .ok (.if_icmp .ge d, 3)) (ht : (pc : Int) + d = (tgt : Int)) (hq : pc + 3 = q) (h1 : y ≤ x → G Y R Z n0 tgt L st n w k j) (h2 : ¬ y ≤ x → G Y R Z n0 q L st n w k j) : G Y R Z n0 pc L (.int y :: .int x :: st) n w k j := by
  intro p l e s m args below meth c D aC A ad0 ad H locs ls hC hK hY hl
  subst hq
  exact lv_icmp_ge hC.1 hC.2.1 hd ht (fun h0 => h1 h0 p l e s m args below meth c D aC A ad0 ad H locs ls hC hK hY hl) (fun h0 => h2 h0 p l e s m args below meth c D aC A ad0 ad H locs ls hC hK hY hl)
theorem g_if_gt {Y : MD} {R : Room} {Z : Zt} {n0 pc q n k j : Nat} {L st : List Value} {w : Wd} {d : Int} {tgt : Nat} {x : Int32} (hd : decode Y.2.1 pc = .ok (.ifCond .gt d, 3)) (ht : (pc : Int) + d = (tgt : Int)) (hq : pc + 3 = q) (h1 : 0 < x → G Y R Z n0 tgt L st n w k j) (h2 : ¬ 0 < x → G Y R Z n0 q L st n w k j) : G Y R Z n0 pc L (.int x :: st) n w k j := by
  intro p l e s m args below meth c D aC A ad0 ad H locs ls hC hK hY hl
  subst hq
  exact lv_if_gt hC.1 hC.2.1 hd ht (fun h0 => h1 h0 p l e s m args below meth c D aC A ad0 ad H locs ls hC hK hY hl) (fun h0 => h2 h0 p l e s m args below meth c D aC A ad0 ad H locs ls hC hK hY hl)
theorem g_icmp_gt {Y : MD} {R : Room} {Z : Zt} {n0 pc q n k j : Nat} {L st : List Value} {w : Wd} {d : Int} {tgt : Nat} {x y : Int32} (hd : decode Y.2.1 pc = .ok (.if_icmp .gt d, 3)) (ht : (pc : Int) + d = (tgt : Int)) (hq : pc + 3 = q) (h1 : y < x → G Y R Z n0 tgt L st n w k j) (h2 : ¬ y < x → G Y R Z n0 q L st n w k j) : G Y R Z n0 pc L (.int y :: .int x :: st) n w k j := by
  intro p l e s m args below meth c D aC A ad0 ad H locs ls hC hK hY hl
  subst hq
  exact lv_icmp_gt hC.1 hC.2.1 hd ht (fun h0 => h1 h0 p l e s m args below meth c D aC A ad0 ad H locs ls hC hK hY hl) (fun h0 => h2 h0 p l e s m args below meth c D aC A ad0 ad H locs ls hC hK hY hl)
theorem g_if_le {Y : MD} {R : Room} {Z : Zt} {n0 pc q n k j : Nat} {L st : List Value} {w : Wd} {d : Int} {tgt : Nat} {x : Int32} (hd : decode Y.2.1 pc = .ok (.ifCond .le d, 3)) (ht : (pc : Int) + d = (tgt : Int)) (hq : pc + 3 = q) (h1 : x ≤ 0 → G Y R Z n0 tgt L st n w k j) (h2 : ¬ x ≤ 0 → G Y R Z n0 q L st n w k j) : G Y R Z n0 pc L (.int x :: st) n w k j := by
  intro p l e s m args below meth c D aC A ad0 ad H locs ls hC hK hY hl
  subst hq
  exact lv_if_le hC.1 hC.2.1 hd ht (fun h0 => h1 h0 p l e s m args below meth c D aC A ad0 ad H locs ls hC hK hY hl) (fun h0 => h2 h0 p l e s m args below meth c D aC A ad0 ad H locs ls hC hK hY hl)
theorem g_icmp_le {Y : MD} {R : Room} {Z : Zt} {n0 pc q n k j : Nat} {L st : List Value} {w : Wd} {d : Int} {tgt : Nat} {x y : Int32} (hd : decode Y.2.1 pc = .ok (.if_icmp .le d, 3)) (ht : (pc : Int) + d = (tgt : Int)) (hq : pc + 3 = q) (h1 : x ≤ y → G Y R Z n0 tgt L st n w k j) (h2 : ¬ x ≤ y → G Y R Z n0 q L st n w k j) : G Y R Z n0 pc L (.int y :: .int x :: st) n w k j := by
  intro p l e s m args below meth c D aC A ad0 ad H locs ls hC hK hY hl
  subst hq
  exact lv_icmp_le hC.1 hC.2.1 hd ht (fun h0 => h1 h0 p l e s m args below meth c D aC A ad0 ad H locs ls hC hK hY hl) (fun h0 => h2 h0 p l e s m args below meth c D aC A ad0 ad H locs ls hC hK hY hl)
theorem g_tabIn {Y : MD} {R : Room} {Z : Zt} {n0 pc q n k j : Nat} {L st : List Value} {w : Wd} {dflt lo hi : Int} {offs : Array Int} {len : Nat} {x : Int32} {off : Int} {tgt : Nat} (hd : decode Y.2.1 pc = .ok (.tableswitch dflt lo hi offs, len)) (h1 : ¬ x.toInt < lo) (h2 : ¬ hi < x.toInt) (ho : offs[(x.toInt - lo).toNat]? = some off) (ht : (pc : Int) + off = (tgt : Int)) (h : G Y R Z n0 tgt L st n w k j) : G Y R Z n0 pc L (.int x :: st) n w k j := by
  intro p l e s m args below meth c D aC A ad0 ad H locs ls hC hK hY hl
  exact lv_tableIn hC.1 hC.2.1 hd h1 h2 ho ht (h p l e s m args below meth c D aC A ad0 ad H locs ls hC hK hY hl)
theorem g_tabOut {Y : MD} {R : Room} {Z : Zt} {n0 pc q n k j : Nat} {L st : List Value} {w : Wd} {dflt lo hi : Int} {offs : Array Int} {len : Nat} {x : Int32} {tgt : Nat} (hd : decode Y.2.1 pc = .ok (.tableswitch dflt lo hi offs, len)) (h1 : x.toInt < lo ∨ hi < x.toInt) (ht : (pc : Int) + dflt = (tgt : Int)) (h : G Y R Z n0 tgt L st n w k j) : G Y R Z n0 pc L (.int x :: st) n w k j := by
  intro p l e s m args below meth c D aC A ad0 ad H locs ls hC hK hY hl
  exact lv_tableOut hC.1 hC.2.1 hd h1 ht (h p l e s m args below meth c D aC A ad0 ad H locs ls hC hK hY hl)
theorem g_lookup {Y : MD} {R : Room} {Z : Zt} {n0 pc q n k j : Nat} {L st : List Value} {w : Wd} {dflt : Int} {ps : Array (Int × Int)} {len : Nat} {x : Int32} {off : Int} {tgt : Nat} (hd : decode Y.2.1 pc = .ok (.lookupswitch dflt ps, len)) (hp : (ps.toList.zip (ps.toList.drop 1)).all (fun (a, next) => a.1 < next.1) = true) (ho : Op.lookupswitch.offset ps.toList dflt x.toInt = off) (ht : (pc : Int) + off = (tgt : Int)) (h : G Y R Z n0 tgt L st n w k j) : G Y R Z n0 pc L (.int x :: st) n w k j := by
  intro p l e s m args below meth c D aC A ad0 ad H locs ls hC hK hY hl
  exact lv_lookup hC.1 hC.2.1 hd hp ho ht (h p l e s m args below meth c D aC A ad0 ad H locs ls hC hK hY hl)
end
section
theorem wsOf_set {aC : Nat → ClassId} {n b : Nat} {w w' : Wd} {ad : Nat → Nat} {x : va_E} (hx : cellOf aC w' ad b = x) (hq : ∀ q, q ≠ b → cellOf aC w' ad q = cellOf aC w ad q) : (wsOf aC n w ad).set b (ad b, x) = wsOf aC n w' ad := by
  subst hx
  exact ws_set (f := fun q => (ad q, cellOf aC w ad q)) (g := fun q => (ad q, cellOf aC w' ad q)) (fun q hq' => by show (ad q, cellOf aC w' ad q) = (ad q, cellOf aC w ad q); rw [hq q hq'])
def pu (r : Option Int32) (st : List Value) : List Value := match r with
  | some x => .int x :: st
  | none => st
theorem ty0 (aC : Nat → ClassId) : (tysOf aC)[0]? = some (aC 1, FieldType.int) := rfl
theorem ty1 (aC : Nat → ClassId) : (tysOf aC)[1]? = some (aC 2, FieldType.boolean) := rfl
theorem TB_good : ∀ w ∈ TB, (w.onTables && w.keeps) = true ∨ ∃ ty, w = .arrayClass ty := fun w hw => good_of_word (List.mem_filter.mp hw).2
theorem goodTB {Y : MD} (h : Cond.code Y.1 Y.2.1 Y.2.2.1 Y.2.2.2.1 ∈ TB) : GoodIn TB (wsM Y) := fun w hw => by
  have hw' : w ∈ TB := (List.mem_cons.mp hw).elim (fun e => e ▸ h) id
  exact ⟨hw', TB_good w hw'⟩

theorem g_getI {Y : MD} {R : Room} {Z : Zt} {n0 pc q n k j : Nat} {L st : List Value} {w : Wd} {b ci i idx N : Nat} {C : String} {T : u_T} (hcl : vwCl[ci]? = some (C, T, N)) (hN : nF ci = N) (hin : ∀ w ∈ u_ws C T N, w ∈ TB) (hi : i < N) (hlk : Cond.fieldLink Y.1.cls idx (T i).1 (T i).2.1 (T i).2.2.1 ∈ TB) (hI : isI ci i = true) (hs : shn n b = (0, ci)) (hd : decode Y.2.1 pc = .ok (.getfield idx, 3)) (hq : pc + 3 = q) (h : G Y R Z n0 q L (.int (w.1 b i) :: st) n w k j) : G Y R Z n0 pc L (.ref b :: st) n w k j := by
  intro p l e s m args below meth c D aC A ad0 ad H locs ls hC hK hY hl
  subst hq
  obtain ⟨hb, hsh⟩ := shn_lt hs (by show (0 : Nat) ≠ 9; decide)
  have he := wsOf_get (aC := aC) (w := w) (ad := ad) hb
  rw [cell_obj hsh] at he
  exact va_get hC.1 hC.2.1 hC.2.2.2.2.2.1 hin hC.2.2.2.2.1 hK.1 hY.1 b he hcl i hi (hC.2.2.2.2.2.1 _ hlk) (fun _ h9 => h9) (v := .int (w.1 b i)) (by rw [flds_get (by rw [hN]; exact hi), if_pos hI]) hd (h p l e s m args below meth c D aC A ad0 ad H locs ls hC hK hY hl)
theorem g_getR {Y : MD} {R : Room} {Z : Zt} {n0 pc q n k j : Nat} {L st : List Value} {w : Wd} {b ci i idx N : Nat} {C : String} {T : u_T} {r : Nat} (hcl : vwCl[ci]? = some (C, T, N)) (hN : nF ci = N) (hin : ∀ w ∈ u_ws C T N, w ∈ TB) (hi : i < N) (hlk : Cond.fieldLink Y.1.cls idx (T i).1 (T i).2.1 (T i).2.2.1 ∈ TB) (hI : isI ci i = false) (hs : shn n b = (0, ci)) (hr : w.2 b i = some r) (hd : decode Y.2.1 pc = .ok (.getfield idx, 3)) (hq : pc + 3 = q) (h : G Y R Z n0 q L (.ref r :: st) n w k j) : G Y R Z n0 pc L (.ref b :: st) n w k j := by
  intro p l e s m args below meth c D aC A ad0 ad H locs ls hC hK hY hl
  subst hq
  obtain ⟨hb, hsh⟩ := shn_lt hs (by show (0 : Nat) ≠ 9; decide)
  have he := wsOf_get (aC := aC) (w := w) (ad := ad) hb
  rw [cell_obj hsh] at he
  exact va_get hC.1 hC.2.1 hC.2.2.2.2.2.1 hin hC.2.2.2.2.1 hK.1 hY.1 b he hcl i hi (hC.2.2.2.2.2.1 _ hlk) (fun _ h9 => h9) (v := .ref (ad r)) (by rw [flds_get (by rw [hN]; exact hi), if_neg (by rw [hI]; decide), hr]; rfl) hd (h p l e s m args below meth c D aC A ad0 ad H locs ls hC hK hY hl)
theorem g_putI {Y : MD} {R : Room} {Z : Zt} {n0 pc q n k j : Nat} {L st : List Value} {w : Wd} {b ci i idx N : Nat} {C : String} {T : u_T} {x : Int32} (hcl : vwCl[ci]? = some (C, T, N)) (hN : nF ci = N) (hin : ∀ w ∈ u_ws C T N, w ∈ TB) (hi : i < N) (hlk : Cond.fieldLink Y.1.cls idx (T i).1 (T i).2.1 (T i).2.2.1 ∈ TB) (ty0 : Nat → FieldType) (hty : ∀ k, k < N → parseFieldDescriptor (T k).2.2.1 = some (ty0 k)) (hnm : ∀ a, a < N → ∀ b, b < N → a ≠ b → (T a).2.1 ≠ (T b).2.1) (hfin : (T i).2.2.2 = false) (hI : isI ci i = true) {ty : FieldType} (hpd : parseFieldDescriptor (T i).2.2.1 = some ty) (hn : narrow ty (.int x) = .int x) (hfit : fits ty (.int x) = true) (hs : shn n b = (0, ci)) (hd : decode Y.2.1 pc = .ok (.putfield idx, 3)) (hq : pc + 3 = q) (h : G Y R Z n0 q L st n (uI w.1 b i x, w.2) k j) : G Y R Z n0 pc L (.int x :: .ref b :: st) n w k j := by
  intro p l e s m args below meth c D aC A ad0 ad H locs ls hC hK hY hl
  subst hq
  obtain ⟨hb, hsh⟩ := shn_lt hs (by show (0 : Nat) ≠ 9; decide)
  have he := wsOf_get (aC := aC) (w := w) (ad := ad) hb
  rw [cell_obj hsh] at he
  refine va_put (v := .int x) hC.1 hC.2.1 hC.2.2.2.2.2.1 hin ty0 hty hnm hC.2.2.2.2.1 hK.1 hY.1 hY.2.1 hY.2.2.1 b he hcl i hi (hC.2.2.2.2.2.1 _ hlk) (fun _ h9 => h9) hfin hpd hn hfit (by simp [flds, hN, hi]) hd (fun H1 locs1 hP1 hD1 hS1 => ?_)
  have hw : (wsOf aC n w ad).set b (ad b, .inr (ci, (flds ci b w ad).set i (.int x))) = wsOf aC n (uI w.1 b i x, w.2) ad := by
    refine wsOf_set ?_ ?_
    · rw [cell_obj hsh]
      refine congrArg (fun z => Sum.inr (ci, z)) (flds_set ?_ ?_).symm
      · rw [if_pos hI]; simp [uI]
      · intro x hx
        simp [uI, uR, hx]
    · intro x hx
      refine cell_same ?_ ?_
      · first | rfl | exact uI_ne hx
      · intro y; first | rfl | (show Option.map ad (uR w.2 b i _ x y) = _; rw [uR_ne hx])
  rw [hw] at hP1 hD1
  exact h p l e s m args below meth c D aC A ad0 ad H1 locs1 ls hC hK ⟨hP1, hD1, hS1, hY.2.2.2⟩ hl
theorem g_putR {Y : MD} {R : Room} {Z : Zt} {n0 pc q n k j : Nat} {L st : List Value} {w : Wd} {b ci i idx N : Nat} {C : String} {T : u_T} {r : Nat} (hcl : vwCl[ci]? = some (C, T, N)) (hN : nF ci = N) (hin : ∀ w ∈ u_ws C T N, w ∈ TB) (hi : i < N) (hlk : Cond.fieldLink Y.1.cls idx (T i).1 (T i).2.1 (T i).2.2.1 ∈ TB) (ty0 : Nat → FieldType) (hty : ∀ k, k < N → parseFieldDescriptor (T k).2.2.1 = some (ty0 k)) (hnm : ∀ a, a < N → ∀ b, b < N → a ≠ b → (T a).2.1 ≠ (T b).2.1) (hfin : (T i).2.2.2 = false) (hI : isI ci i = false) {ty : FieldType} (hpd : parseFieldDescriptor (T i).2.2.1 = some ty) (hn : ∀ z, narrow ty (.ref z) = .ref z) (hfit : ∀ z, fits ty (.ref z) = true) (hs : shn n b = (0, ci)) (hd : decode Y.2.1 pc = .ok (.putfield idx, 3)) (hq : pc + 3 = q) (h : G Y R Z n0 q L st n (w.1, uR w.2 b i (some r)) k j) : G Y R Z n0 pc L (.ref r :: .ref b :: st) n w k j := by
  intro p l e s m args below meth c D aC A ad0 ad H locs ls hC hK hY hl
  subst hq
  obtain ⟨hb, hsh⟩ := shn_lt hs (by show (0 : Nat) ≠ 9; decide)
  have he := wsOf_get (aC := aC) (w := w) (ad := ad) hb
  rw [cell_obj hsh] at he
  refine va_put (v := .ref (ad r)) hC.1 hC.2.1 hC.2.2.2.2.2.1 hin ty0 hty hnm hC.2.2.2.2.1 hK.1 hY.1 hY.2.1 hY.2.2.1 b he hcl i hi (hC.2.2.2.2.2.1 _ hlk) (fun _ h9 => h9) hfin hpd (hn _) (hfit _) (by simp [flds, hN, hi]) hd (fun H1 locs1 hP1 hD1 hS1 => ?_)
  have hw : (wsOf aC n w ad).set b (ad b, .inr (ci, (flds ci b w ad).set i (.ref (ad r)))) = wsOf aC n (w.1, uR w.2 b i (some r)) ad := by
    refine wsOf_set ?_ ?_
    · rw [cell_obj hsh]
      refine congrArg (fun z => Sum.inr (ci, z)) (flds_set ?_ ?_).symm
      · rw [if_neg (by rw [hI]; decide)]; simp [uR, va_rf]
      · intro x hx
        simp [uI, uR, hx]
    · intro x hx
      refine cell_same ?_ ?_
      · first | rfl | exact uI_ne hx
      · intro y; first | rfl | (show Option.map ad (uR w.2 b i _ x y) = _; rw [uR_ne hx])
  rw [hw] at hP1 hD1
  exact h p l e s m args below meth c D aC A ad0 ad H1 locs1 ls hC hK ⟨hP1, hD1, hS1, hY.2.2.2⟩ hl
theorem g_putFR {Y : MD} {R : Room} {Z : Zt} {n0 pc q n k j : Nat} {L st : List Value} {w : Wd} {b ci i idx N : Nat} {C : String} {T : u_T} {r : Nat} (hcl : vwCl[ci]? = some (C, T, N)) (hN : nF ci = N) (hin : ∀ w ∈ u_ws C T N, w ∈ TB) (hi : i < N) (hlk : Cond.fieldLink Y.1.cls idx (T i).1 (T i).2.1 (T i).2.2.1 ∈ TB) (ty0 : Nat → FieldType) (hty : ∀ k, k < N → parseFieldDescriptor (T k).2.2.1 = some (ty0 k)) (hnm : ∀ a, a < N → ∀ b, b < N → a ≠ b → (T a).2.1 ≠ (T b).2.1) (hfin : (T i).2.2.2 = true) (hini : Y.1.name = "<init>") (hdecl : (T i).1 = Y.1.cls) (hI : isI ci i = false) {ty : FieldType} (hpd : parseFieldDescriptor (T i).2.2.1 = some ty) (hn : ∀ z, narrow ty (.ref z) = .ref z) (hfit : ∀ z, fits ty (.ref z) = true) (hs : shn n b = (0, ci)) (hd : decode Y.2.1 pc = .ok (.putfield idx, 3)) (hq : pc + 3 = q) (h : G Y R Z n0 q L st n (w.1, uR w.2 b i (some r)) k j) : G Y R Z n0 pc L (.ref r :: .ref b :: st) n w k j := by
  intro p l e s m args below meth c D aC A ad0 ad H locs ls hC hK hY hl
  subst hq
  obtain ⟨hb, hsh⟩ := shn_lt hs (by show (0 : Nat) ≠ 9; decide)
  have he := wsOf_get (aC := aC) (w := w) (ad := ad) hb
  rw [cell_obj hsh] at he
  refine va_putF (v := .ref (ad r)) hC.1 hC.2.1 hC.2.2.2.2.2.1 hin ty0 hty hnm hC.2.2.2.2.1 hK.1 hY.1 hY.2.1 hY.2.2.1 b he hcl i hi (hC.2.2.2.2.2.1 _ hlk) (fun _ h9 => h9) hfin (hC.2.2.2.2.2.2.2 hini) hdecl hpd (hn _) (hfit _) (by simp [flds, hN, hi]) hd (fun H1 locs1 hP1 hD1 hS1 => ?_)
  have hw : (wsOf aC n w ad).set b (ad b, .inr (ci, (flds ci b w ad).set i (.ref (ad r)))) = wsOf aC n (w.1, uR w.2 b i (some r)) ad := by
    refine wsOf_set ?_ ?_
    · rw [cell_obj hsh]
      refine congrArg (fun z => Sum.inr (ci, z)) (flds_set ?_ ?_).symm
      · rw [if_neg (by rw [hI]; decide)]; simp [uR, va_rf]
      · intro x hx
        simp [uI, uR, hx]
    · intro x hx
      refine cell_same ?_ ?_
      · first | rfl | exact uI_ne hx
      · intro y; first | rfl | (show Option.map ad (uR w.2 b i _ x y) = _; rw [uR_ne hx])
  rw [hw] at hP1 hD1
  exact h p l e s m args below meth c D aC A ad0 ad H1 locs1 ls hC hK ⟨hP1, hD1, hS1, hY.2.2.2⟩ hl
theorem g_iald {Y : MD} {R : Room} {Z : Zt} {n0 pc q n k j : Nat} {L st : List Value} {w : Wd} {b N : Nat} {i : Int32} (hs : shn n b = (1, N)) (hin : vp_in i N) (hd : decode Y.2.1 pc = .ok (.iaload, 1)) (hq : pc + 1 = q) (h : G Y R Z n0 q L (.int (w.1 b i.toNatClampNeg) :: st) n w k j) : G Y R Z n0 pc L (.int i :: .ref b :: st) n w k j := by
  intro p l e s m args below meth c D aC A ad0 ad H locs ls hC hK hY hl
  subst hq
  obtain ⟨hb, hsh⟩ := shn_lt hs (by show (1 : Nat) ≠ 9; decide)
  have he := wsOf_get (aC := aC) (w := w) (ad := ad) hb
  rw [cell_arr hsh (by decide) (by decide)] at he
  exact va_iald hC.1 hC.2.1 hK.1 hY.1 b 0 he (ty0 aC) hin hd (h p l e s m args below meth c D aC A ad0 ad H locs ls hC hK hY hl)
theorem g_zald {Y : MD} {R : Room} {Z : Zt} {n0 pc q n k j : Nat} {L st : List Value} {w : Wd} {b N : Nat} {i : Int32} (hs : shn n b = (2, N)) (hin : vp_in i N) (hd : decode Y.2.1 pc = .ok (.baload, 1)) (hq : pc + 1 = q) (h : G Y R Z n0 q L (.int (w.1 b i.toNatClampNeg) :: st) n w k j) : G Y R Z n0 pc L (.int i :: .ref b :: st) n w k j := by
  intro p l e s m args below meth c D aC A ad0 ad H locs ls hC hK hY hl
  subst hq
  obtain ⟨hb, hsh⟩ := shn_lt hs (by show (2 : Nat) ≠ 9; decide)
  have he := wsOf_get (aC := aC) (w := w) (ad := ad) hb
  rw [cell_arr hsh (by decide) (by decide)] at he
  exact va_zald hC.1 hC.2.1 hK.1 hY.1 b 1 he (ty1 aC) hin hd (h p l e s m args below meth c D aC A ad0 ad H locs ls hC hK hY hl)
theorem g_iast {Y : MD} {R : Room} {Z : Zt} {n0 pc q n k j : Nat} {L st : List Value} {w : Wd} {b N : Nat} {i x : Int32} (hs : shn n b = (1, N)) (hin : vp_in i N) (hd : decode Y.2.1 pc = .ok (.iastore, 1)) (hq : pc + 1 = q) (h : G Y R Z n0 q L st n (uI w.1 b i.toNatClampNeg (x), w.2) k j) : G Y R Z n0 pc L (.int x :: .int i :: .ref b :: st) n w k j := by
  intro p l e s m args below meth c D aC A ad0 ad H locs ls hC hK hY hl
  subst hq
  obtain ⟨hb, hsh⟩ := shn_lt hs (by show (1 : Nat) ≠ 9; decide)
  have he := wsOf_get (aC := aC) (w := w) (ad := ad) hb
  rw [cell_arr hsh (by decide) (by decide)] at he
  refine va_iast hC.1 hC.2.1 hK.1 hY.1 hY.2.1 hY.2.2.1 b 0 he (ty0 aC) hin hd (fun H1 locs1 hP1 hD1 hS1 => ?_)
  have hw : (wsOf aC n w ad).set b (ad b, .inl (aC 1, N, .inl (upd (w.1 b) i.toNatClampNeg (x)))) = wsOf aC n (uI w.1 b i.toNatClampNeg (x), w.2) ad := by
    refine wsOf_set ?_ (fun x hx => cell_same (uI_ne hx) (fun _ => rfl))
    rw [cell_arr hsh (by decide) (by decide)]
    refine congrArg (fun z => Sum.inl (aC 1, N, Sum.inl z)) ?_
    funext y
    simp [uI, upd]
  rw [hw] at hP1 hD1
  exact h p l e s m args below meth c D aC A ad0 ad H1 locs1 ls hC hK ⟨hP1, hD1, hS1, hY.2.2.2⟩ hl
theorem g_zast {Y : MD} {R : Room} {Z : Zt} {n0 pc q n k j : Nat} {L st : List Value} {w : Wd} {b N : Nat} {i x : Int32} (hs : shn n b = (2, N)) (hin : vp_in i N) (hd : decode Y.2.1 pc = .ok (.bastore, 1)) (hq : pc + 1 = q) (h : G Y R Z n0 q L st n (uI w.1 b i.toNatClampNeg (vp_nar .boolean x), w.2) k j) : G Y R Z n0 pc L (.int x :: .int i :: .ref b :: st) n w k j := by
  intro p l e s m args below meth c D aC A ad0 ad H locs ls hC hK hY hl
  subst hq
  obtain ⟨hb, hsh⟩ := shn_lt hs (by show (2 : Nat) ≠ 9; decide)
  have he := wsOf_get (aC := aC) (w := w) (ad := ad) hb
  rw [cell_arr hsh (by decide) (by decide)] at he
  refine va_zast hC.1 hC.2.1 hK.1 hY.1 hY.2.1 hY.2.2.1 b 1 he (ty1 aC) hin hd (fun H1 locs1 hP1 hD1 hS1 => ?_)
  have hw : (wsOf aC n w ad).set b (ad b, .inl (aC 2, N, .inl (upd (w.1 b) i.toNatClampNeg (vp_nar .boolean x)))) = wsOf aC n (uI w.1 b i.toNatClampNeg (vp_nar .boolean x), w.2) ad := by
    refine wsOf_set ?_ (fun x hx => cell_same (uI_ne hx) (fun _ => rfl))
    rw [cell_arr hsh (by decide) (by decide)]
    refine congrArg (fun z => Sum.inl (aC 2, N, Sum.inl z)) ?_
    funext y
    simp [uI, upd]
  rw [hw] at hP1 hD1
  exact h p l e s m args below meth c D aC A ad0 ad H1 locs1 ls hC hK ⟨hP1, hD1, hS1, hY.2.2.2⟩ hl
theorem g_aald {Y : MD} {R : Room} {Z : Zt} {n0 pc q n k j : Nat} {L st : List Value} {w : Wd} {b N t r : Nat} {C : String} {i : Int32} (hs : shn n b = (t, N)) (ht3 : ¬ t ≤ 2) (ht9 : t ≠ 9) (hty : ∀ aC : Nat → ClassId, (tysOf aC)[t - 1]? = some (aC t, FieldType.object C)) (hin : vp_in i N) (hr : w.2 b i.toNatClampNeg = some r) (hd : decode Y.2.1 pc = .ok (.aaload, 1)) (hq : pc + 1 = q) (h : G Y R Z n0 q L (.ref r :: st) n w k j) : G Y R Z n0 pc L (.int i :: .ref b :: st) n w k j := by
  intro p l e s m args below meth c D aC A ad0 ad H locs ls hC hK hY hl
  subst hq
  obtain ⟨hb, hsh⟩ := shn_lt hs ht9
  have he := wsOf_get (aC := aC) (w := w) (ad := ad) hb
  rw [cell_ref hsh ht3] at he
  refine va_aldq hC.1 hC.2.1 hK.1 hY.1 b (t - 1) he (hty aC) hin hd ?_
  rw [hr]
  exact (h p l e s m args below meth c D aC A ad0 ad H locs ls hC hK hY hl)
theorem g_gets {Y : MD} {R : Room} {Z : Zt} {n0 pc q n k j : Nat} {L st : List Value} {w : Wd} {i idx : Nat} (hi : i < 4) (hlk : Cond.fieldLink Y.1.cls idx (stC i).1 (stC i).2 "[I" ∈ TB) (hd : decode Y.2.1 pc = .ok (.getstatic idx, 3)) (hq : pc + 3 = q) (h : G Y R Z n0 q L (.ref (1001 + i) :: st) n w k j) : G Y R Z n0 pc L st n w k j := by
  intro p l e s m args below meth c D aC A ad0 ad H locs ls hC hK hY hl
  subst hq
  have h0 : ad (1001 + i) = ad0 (1001 + i) := hY.2.2.2.2.2 _ (Or.inr (Or.inr (by omega)))
  refine va_gets (v := .ref (ad0 (1001 + i))) hC.1 hC.2.1 (hK.2.2.2.2.1 i hi).1 hY.2.2.1 hC.2.2.2.2.1 (hC.2.2.2.2.2.1 _ hlk) (fun _ h9 => h9) hd ?_
  have h1 := h p l e s m args below meth c D aC A ad0 ad H locs ls hC hK hY hl
  rw [← h0]
  exact h1
theorem g_getsN {Y : MD} {R : Room} {Z : Zt} {n0 pc q n k j : Nat} {L st : List Value} {w : Wd} (hy : Y.1.cls = "WovenCalls$Weave") (hd : decode Y.2.1 pc = .ok (.getstatic 74, 3)) (hq : pc + 3 = q) (h : G Y R Z n0 q L (.ref 1001 :: st) n w k j) : G Y R Z n0 pc L st n w k j := by
  intro p l e s m args below meth c D aC A ad0 ad H locs ls hC hK hY hl
  subst hq
  have h0 : ad 1001 = ad0 1001 := hY.2.2.2.2.2 _ (Or.inr (Or.inr (by omega)))
  refine va_getsN (v := .ref (ad0 1001)) hC.1 hC.2.1 (hK.2.2.2.2.1 0 (by decide)).1 hY.2.2.1 (own := "WovenCalls$Weave") (by rw [← hy]; exact hC.2.2.2.2.1) (va_Nw.use rfl hK.2.2.1) (fun _ h9 => h9) hd ?_
  have h1 := h p l e s m args below meth c D aC A ad0 ad H locs ls hC hK hY hl
  rw [← h0]
  exact h1
theorem g_tald {Y : MD} {R : Room} {Z : Zt} {n0 pc q n k j : Nat} {L st : List Value} {w : Wd} {i : Nat} {x : Int32} (hi : i < 4) (hin : vp_in x (stV i).length) (hd : decode Y.2.1 pc = .ok (.iaload, 1)) (hq : pc + 1 = q) (h : G Y R Z n0 q L (.int ((stV i).getD x.toNatClampNeg 0) :: st) n w k j) : G Y R Z n0 pc L (.int x :: .ref (1001 + i) :: st) n w k j := by
  intro p l e s m args below meth c D aC A ad0 ad H locs ls hC hK hY hl
  subst hq
  have h0 : ad (1001 + i) = ad0 (1001 + i) := hY.2.2.2.2.2 _ (Or.inr (Or.inr (by omega)))
  show W p l e R s m args below meth c H locs k j (Z args below s D aC A ad0) (F0 m pc ls (.int x :: .ref (ad (1001 + i)) :: cvS ad st))
  rw [h0]
  exact va_ti (v := .int ((stV i).getD x.toNatClampNeg 0)) hC.1 hC.2.1 (hK.2.2.2.2.1 i hi).2 hY.2.2.1 hin rfl hd (h p l e s m args below meth c D aC A ad0 ad H locs ls hC hK hY hl)
theorem g_sld {Y : MD} {R : Room} {Z : Zt} {n0 pc q n k j : Nat} {L st : List Value} {w : Wd} {N : Nat} {xs : Nat → Int32} {x : Int32} (hsc : Y.2.2.2.2 = some (N, xs)) (hin : vp_in x N) (hd : decode Y.2.1 pc = .ok (.iaload, 1)) (hq : pc + 1 = q) (h : G Y R Z n0 q L (.int (xs x.toNatClampNeg) :: st) n w k j) : G Y R Z n0 pc L (.int x :: .ref 1000 :: st) n w k j := by
  intro p l e s m args below meth c D aC A ad0 ad H locs ls hC hK hY hl
  subst hq
  have h0 : ad 1000 = ad0 1000 := hY.2.2.2.2.2 _ (Or.inr (Or.inr (by omega)))
  obtain ⟨hX, hb, hA⟩ := hK.2.2.2.2.2 _ hsc
  show W p l e R s m args below meth c H locs k j (Z args below s D aC A ad0) (F0 m pc ls (.int x :: .ref (ad 1000) :: cvS ad st))
  rw [h0]
  exact va_sld hC.1 hC.2.1 hX hb hA hY.2.2.1 hin hd (h p l e s m args below meth c D aC A ad0 ad H locs ls hC hK hY hl)
theorem g_slen {Y : MD} {R : Room} {Z : Zt} {n0 pc q n k j : Nat} {L st : List Value} {w : Wd} {N : Nat} {xs : Nat → Int32} (hsc : Y.2.2.2.2 = some (N, xs)) (hd : decode Y.2.1 pc = .ok (.arraylength, 1)) (hq : pc + 1 = q) (h : G Y R Z n0 q L (.int (Int32.ofNat N) :: st) n w k j) : G Y R Z n0 pc L (.ref 1000 :: st) n w k j := by
  intro p l e s m args below meth c D aC A ad0 ad H locs ls hC hK hY hl
  subst hq
  have h0 : ad 1000 = ad0 1000 := hY.2.2.2.2.2 _ (Or.inr (Or.inr (by omega)))
  obtain ⟨hX, hb, hA⟩ := hK.2.2.2.2.2 _ hsc
  show W p l e R s m args below meth c H locs k j (Z args below s D aC A ad0) (F0 m pc ls (.ref (ad 1000) :: cvS ad st))
  rw [h0]
  exact va_slen hC.1 hC.2.1 hX hb hA hY.2.2.1 hd (h p l e s m args below meth c D aC A ad0 ad H locs ls hC hK hY hl)
theorem g_copy {Y : MD} {R : Room} {Z : Zt} {n0 pc q n k j : Nat} {L st : List Value} {w : Wd} {a0 a1 N0 N1 idx : Nat} {sp dp x : Int32} (hlk : Cond.methodLink Y.1.cls idx arraycopyName ∈ TB) (hw1 : Cond.native arraycopyName ∈ TB) (hw2 : Cond.static arraycopyName ∈ TB) (hw3 : Cond.initialized "java/lang/System" ∈ TB) (hs0 : shn n a0 = (1, N0)) (hs1 : shn n a1 = (1, N1)) (h1 : ¬ sp < 0) (h2 : ¬ dp < 0) (h3 : ¬ x < 0) (h4 : sp.toNatClampNeg + x.toNatClampNeg ≤ N0) (h5 : dp.toNatClampNeg + x.toNatClampNeg ≤ N1) (hR : 1 ≤ R.frames ∧ 8 + (nativeFrameWords "java/lang/System" "arraycopy" 5 + 11) ≤ R.locals) (hst : (st.map fun v => v.category).sum ≤ 8) (hd : decode Y.2.1 pc = .ok (.invokestatic idx, 3)) (hq : pc + 3 = q) (h : G Y R Z n0 q L st n (uA w.1 a1 (va_cpy (w.1 a0) (w.1 a1) sp.toNatClampNeg dp.toNatClampNeg x.toNatClampNeg), w.2) k j) : G Y R Z n0 pc L (.int x :: .int dp :: .ref a1 :: .int sp :: .ref a0 :: st) n w k j := by
  intro p l e s m args below meth c D aC A ad0 ad H locs ls hC hK hY hl
  subst hq
  obtain ⟨hb0, hsh0⟩ := shn_lt hs0 (by show (1 : Nat) ≠ 9; decide)
  obtain ⟨hb1, hsh1⟩ := shn_lt hs1 (by show (1 : Nat) ≠ 9; decide)
  have he0 := wsOf_get (aC := aC) (w := w) (ad := ad) hb0
  rw [cell_arr hsh0 (by decide) (by decide)] at he0
  have he1 := wsOf_get (aC := aC) (w := w) (ad := ad) hb1
  rw [cell_arr hsh1 (by decide) (by decide)] at he1
  have hT := hC.2.2.2.2.2.1
  refine va_copyi hC.1 hC.2.1 (hC.2.2.2.1.trans hl.1.symm) hC.2.2.2.2.1 (hT _ hlk) (hT _ hw1) (hT _ hw2) (hT _ hw3) hK.1 hY.1 hY.2.1 hY.2.2.1 a0 a1 0 0 he0 he1 (ty0 aC) (ty0 aC) rfl h1 h2 h3 h4 h5 (fun _ _ => rfl) hR.1 (by have z := cvS_sum ad st; unfold cvS at z; omega) hd (fun H1 locs1 hP1 hD1 hS1 => ?_)
  have hw : (wsOf aC n w ad).set a1 (ad a1, .inl (aC 1, N1, .inl (va_cpy (w.1 a0) (w.1 a1) sp.toNatClampNeg dp.toNatClampNeg x.toNatClampNeg))) = wsOf aC n (uA w.1 a1 (va_cpy (w.1 a0) (w.1 a1) sp.toNatClampNeg dp.toNatClampNeg x.toNatClampNeg), w.2) ad := by
    refine wsOf_set ?_ (fun x hx => cell_same (uA_ne hx) (fun _ => rfl))
    rw [cell_arr hsh1 (by decide) (by decide)]
    refine congrArg (fun z => Sum.inl (aC 1, N1, Sum.inl z)) ?_
    simp [uA]
  rw [hw] at hP1 hD1
  exact h p l e s m args below meth c D aC A ad0 ad H1 locs1 ls hC hK ⟨hP1, hD1, hS1, hY.2.2.2⟩ hl
theorem g_mabs {Y : MD} {R : Room} {Z : Zt} {n0 pc q n k j : Nat} {L st : List Value} {w : Wd} {idx : Nat} {x : Int32} (hlk : Cond.methodLink Y.1.cls idx Lib.Math.abs.name ∈ TB) (hw1 : Cond.static Lib.Math.abs.name ∈ TB) (hw2 : Cond.initialized "java/lang/Math" ∈ TB) (hw3 : Cond.code Lib.Math.abs.name Lib.Math.abs.code 1 (some .int) ∈ TB) (hR : 1 ≤ R.frames ∧ 21 ≤ R.locals ∧ k ≤ R.cells ∧ j ≤ R.slots) (hst : (st.map fun v => v.category).sum ≤ 8) (hd : decode Y.2.1 pc = .ok (.invokestatic idx, 3)) (hq : pc + 3 = q) (h : G Y R Z n0 q L (.int (if 0 ≤ x then x else 0 - x) :: st) n w k j) : G Y R Z n0 pc L (.int x :: st) n w k j := by
  intro p l e s m args below meth c D aC A ad0 ad H locs ls hC hK hY hl
  subst hq
  have hT := hC.2.2.2.2.2.1
  exact va_mabs hC.1 hC.2.1 (hC.2.2.2.1.trans hl.1.symm) hC.2.2.2.2.1 (hT _ hlk) (hT _ hw1) (hT _ hw2) (hT _ hw3) hR.1 (by have z := cvS_sum ad st; unfold cvS at z; omega) hR.2.2.1 hR.2.2.2 hd (h p l e s m args below meth c D aC A ad0 ad H locs ls hC hK hY hl)
theorem g_mmin {Y : MD} {R : Room} {Z : Zt} {n0 pc q n k j : Nat} {L st : List Value} {w : Wd} {idx : Nat} {x y : Int32} (hlk : Cond.methodLink Y.1.cls idx Lib.Math.min.name ∈ TB) (hw1 : Cond.static Lib.Math.min.name ∈ TB) (hw2 : Cond.initialized "java/lang/Math" ∈ TB) (hw3 : Cond.code Lib.Math.min.name Lib.Math.min.code 2 (some .int) ∈ TB) (hR : 1 ≤ R.frames ∧ 21 ≤ R.locals ∧ k ≤ R.cells ∧ j ≤ R.slots) (hst : (st.map fun v => v.category).sum ≤ 8) (hd : decode Y.2.1 pc = .ok (.invokestatic idx, 3)) (hq : pc + 3 = q) (h : G Y R Z n0 q L (.int (if y < x then y else x) :: st) n w k j) : G Y R Z n0 pc L (.int y :: .int x :: st) n w k j := by
  intro p l e s m args below meth c D aC A ad0 ad H locs ls hC hK hY hl
  subst hq
  have hT := hC.2.2.2.2.2.1
  exact va_mmin hC.1 hC.2.1 (hC.2.2.2.1.trans hl.1.symm) hC.2.2.2.2.1 (hT _ hlk) (hT _ hw1) (hT _ hw2) (hT _ hw3) hR.1 (by have z := cvS_sum ad st; unfold cvS at z; omega) hR.2.2.1 hR.2.2.2 hd (h p l e s m args below meth c D aC A ad0 ad H locs ls hC hK hY hl)
theorem g_objInit {Y : MD} {R : Room} {Z : Zt} {n0 pc q n k j : Nat} {L st : List Value} {w : Wd} {b idx : Nat} (hlk : Cond.methodLink Y.1.cls idx objectInit ∈ TB) (hw1 : Cond.instanceMethod objectInit ∈ TB) (hw2 : Cond.code objectInit ⟨#[0xb1]⟩ 1 none ∈ TB) (hR : 1 ≤ R.frames ∧ 20 ≤ R.locals) (hst : (st.map fun v => v.category).sum ≤ 8) (hd : decode Y.2.1 pc = .ok (.invokespecial idx, 3)) (hq : pc + 3 = q) (h : G Y R Z n0 q L st n w k j) : G Y R Z n0 pc L (.ref b :: st) n w k j := by
  intro p l e s m args below meth c D aC A ad0 ad H locs ls hC hK hY hl
  subst hq
  have hT := hC.2.2.2.2.2.1
  refine W.objInit hC.1 hC.2.1 hC.2.2.2.2.1 (hT _ hlk) (hT _ hw1) (hT _ hw2) rfl (hl.1.trans hC.2.2.2.1.symm) (a := ad b) (rest := cvS ad st) rfl hd hR.1 (by show 2 * 0 + _ + 12 ≤ _; rw [cvS_sum]; omega) ?_
  exact (h p l e s m args below meth c D aC A ad0 ad H locs ls hC hK hY hl)
theorem g_iret {Y : MD} {R : Room} {n0 pc q n k j : Nat} {L st : List Value} {w : Wd} {Q : Option Int32 → Wd → Prop} {mc ms : Nat} {x : Int32} (hr : Y.2.2.2.1 = some .int) (hd : decode Y.2.1 pc = .ok (.ireturn, 1)) (hk : k ≤ mc) (hj : j ≤ ms) (h : Q (some x) w) : G Y R (Zm Q n0 n mc ms) n0 pc L [.int x] n w k j := by
  intro p l e s m args below meth c D aC A ad0 ad H locs ls hC hK hY hl
  refine W.widen (k := mc) (n := ms) hk hj ?_
  exact W.iret hC.1 hC.2.1 (hC.2.2.1.trans hr) (fun t ht hW => ⟨⟨(some x), w, ad, rfl, h, by rw [ht]; exact hY.1, hY.2.1, hY.2.2.2.2.1, hY.2.2.2.2.2⟩, hY.2.2.1.F ht⟩) hY.2.2.1.2.2 hd hC.2.2.2.2.2.2.1
theorem g_zret {Y : MD} {R : Room} {n0 pc q n k j : Nat} {L st : List Value} {w : Wd} {Q : Option Int32 → Wd → Prop} {mc ms : Nat} {x : Int32} (hr : Y.2.2.2.1 = some .boolean) (hn : narrow .boolean (.int x) = .int x) (hd : decode Y.2.1 pc = .ok (.ireturn, 1)) (hk : k ≤ mc) (hj : j ≤ ms) (h : Q (some x) w) : G Y R (Zm Q n0 n mc ms) n0 pc L [.int x] n w k j := by
  intro p l e s m args below meth c D aC A ad0 ad H locs ls hC hK hY hl
  refine W.widen (k := mc) (n := ms) hk hj ?_
  exact W.zret hC.1 hC.2.1 (hC.2.2.1.trans hr) hn (fun t ht hW => ⟨⟨(some x), w, ad, rfl, h, by rw [ht]; exact hY.1, hY.2.1, hY.2.2.2.2.1, hY.2.2.2.2.2⟩, hY.2.2.1.F ht⟩) hY.2.2.1.2.2 hd hC.2.2.2.2.2.2.1
theorem g_vret {Y : MD} {R : Room} {n0 pc q n k j : Nat} {L st : List Value} {w : Wd} {Q : Option Int32 → Wd → Prop} {mc ms : Nat}  (hr : Y.2.2.2.1 = none) (hd : decode Y.2.1 pc = .ok (.return_, 1)) (hk : k ≤ mc) (hj : j ≤ ms) (h : Q none w) : G Y R (Zm Q n0 n mc ms) n0 pc L [] n w k j := by
  intro p l e s m args below meth c D aC A ad0 ad H locs ls hC hK hY hl
  refine W.widen (k := mc) (n := ms) hk hj ?_
  exact W.vret hC.1 hC.2.1 (hC.2.2.1.trans hr) (fun t ht hW => ⟨⟨none, w, ad, rfl, h, by rw [ht]; exact hY.1, hY.2.1, hY.2.2.2.2.1, hY.2.2.2.2.2⟩, hY.2.2.1.F ht⟩) hY.2.2.1.2.2 hd hC.2.2.2.2.2.2.1
theorem A1_sub {aC : Nat → ClassId} {n : Nat} {w : Wd} {ad : Nat → Nat} {A : Nat → Prop} {H0 H : Heap} {locs : List Loc} (hD : va_D A (wsOf aC n w ad)) (hS : va_S A H0 H locs) (hA : ∀ q, H0.size ≤ q → A q) : ∀ q, va_A (wsOf aC n w ad) H.size q → A q := by
  intro q h
  rcases h with ⟨k, e, h⟩ | h
  · exact hD.2 k (q, e) h
  · exact hA q (Nat.le_trans hS.1 h)
theorem Ks_call {sc : Option (Nat × (Nat → Int32))} {D : va_G} {aC : Nat → ClassId} {A A1 : Nat → Prop} {ad0 ad : Nat → Nat} {s U : State} {H : Heap} {locs : List Loc} (hK : Ks sc D aC A ad0 s) (hS : va_S A s.heap H locs) (h1 : ∀ q, A1 q → A q) (ha : ∀ q, 1000 ≤ q → ad q = ad0 q) (hU : U.heap = H) (hW : s.WarmedH U.vm) : Ks none D aC A1 ad U := by
  obtain ⟨k1, k2, k3, ⟨k4, k5⟩, k6, -⟩ := hK
  refine ⟨va_K.moved hW.alike k1, fun x hx => va_Nw.warmM hW (k2 x hx), va_Nw.warmF hW k3, ⟨va_AO.moved hW.alike k4, va_AO.moved hW.alike k5⟩, fun i hi => ?_, fun x hx => by cases hx⟩
  have h0 : ad (1001 + i) = ad0 (1001 + i) := ha _ (by omega)
  obtain ⟨z1, z2⟩ := k6 i hi
  rw [h0, hU]
  exact ⟨va_Z.moved hW.alike ((z1.kept hS.2.1).narrow h1), va_T.moved hW.alike ((z2.kept hS.2.1).narrow h1)⟩
theorem Ks_same {D : va_G} {aC : Nat → ClassId} {A : Nat → Prop} {ad : Nat → Nat} {s U : State} (hK : Ks none D aC A ad s) (hv : s.vm = U.vm) (hU : U.heap = s.heap) : Ks none D aC A ad U := by
  have hal : s.vm.Alike U.vm := by rw [hv]; exact Vm.Alike.refl _
  obtain ⟨k1, k2, k3, ⟨k4, k5⟩, k6, -⟩ := hK
  refine ⟨va_K.moved hal k1, fun x hx => va_Nw.same rfl hv (k2 x hx), va_Nw.same rfl hv k3, ⟨va_AO.moved hal k4, va_AO.moved hal k5⟩, fun i hi => ?_, fun x hx => by cases hx⟩
  obtain ⟨z1, z2⟩ := k6 i hi
  rw [hU]
  exact ⟨va_Z.moved hal z1, va_T.moved hal z2⟩
theorem Pc_blind {D : va_G} {aC : Nat → ClassId} {A : Nat → Prop} {ad : Nat → Nat} {n sz : Nat} {w : Wd} {av : List Value} : FrameBlind (va_Pc av (fun U => U.heap.size = sz ∧ va_P D vwCl (wsOf aC n w ad) U.heap ∧ va_D (fun _ => True) (wsOf aC n w ad) ∧ Ks none D aC A ad U)) := by
  intro a U g mk hq
  obtain ⟨q0, q1, qP, qD, qK⟩ := hq
  exact ⟨q0, q1, qP, qD, Ks_same qK rfl rfl⟩

theorem g_back {p : Program} {l : Launch} {e : Env} {s : State} {m : MethodId} {args : Array Value} {below : List Frame} {meth : Method} {c : Code} {D : va_G} {aC : Nat → ClassId} {A : Nat → Prop} {ad0 ad : Nat → Nat} {H : Heap} {locs : List Loc} {ls : Array Slot} {Y : MD} {R : Room} {Z : Zt} {n0 pc q n k j : Nat} {L st : List Value} {w : Wd} {Q : Option Int32 → Wd → Prop} {n1 mc ms : Nat} {av : Array Value} {st0 : List Value} (hC : Cx Y p s m args meth c) (hK : Ks Y.2.2.2.2 D aC A ad0 s) (hY : Dy D aC A ad0 ad n0 n w s.heap H locs) (hl : lv_has ls Y.2.2.1 (cvL ad 0 L))
    (hr : va_Run p l e R s m args below meth c H locs k j mc ms (F0 m pc ls st0) (cvS ad st) (Qm Q n n1 D aC (va_A (wsOf aC n w ad) H.size) ad av) (va_A (wsOf aC n w ad) H.size)) (hq : pc + 3 = q) (hok : n1 = n ∨ (L.all (okV n) = true ∧ st.all (okV n) = true))
    (kk : ∀ r w', Q r w' → G Y R Z n0 q L (pu r st) n1 w' (k + mc) (j + ms)) : W p l e R s m args below meth c H locs k j (Z args below s D aC A ad0) (F0 m pc ls st0) := by
  subst hq
  have hF := A1_sub hY.2.1 hY.2.2.1 hY.2.2.2.1
  intro T hT X
  obtain ⟨v, st₀, t, T', Lc, h0, X', hLc, e1, e2, ⟨⟨r, w', ad', hv, hQ, hP', hD', hn, hag⟩, hz, hk⟩, stp⟩ := hr T hT X
  have hv : v = r.map Value.int := by cases hv; rfl
  subst hv
  rw [h0] at hz hk
  have hS' : va_S A s.heap T'.heap (locs ++ Lc) := by
    refine ⟨Nat.le_trans hY.2.2.1.1 (by rw [e1]; exact hz), fun q h1 h2 => ?_, fun q hq => ?_⟩
    · rw [e1, hk q (Nat.lt_of_lt_of_le h1 hY.2.2.1.1) (fun z => h2 (hF q z))]
      exact hY.2.2.1.2.1 q h1 h2
    · rcases List.mem_append.mp hq with h | h
      · exact hY.2.2.1.2.2 q h
      · exact hF _ (hLc q h)
  have hmv : cvL ad' 0 L = cvL ad 0 L ∧ cvS ad' st = cvS ad st := by
    rcases hok with h | ⟨h1, h2⟩
    · have : ad' = ad := by
        funext z
        exact hag z (by omega)
      rw [this]
      exact ⟨rfl, rfl⟩
    · exact ⟨cvL_move hn hag h1 0, cvS_move hn hag h2⟩
  have hY' : Dy D aC A ad0 ad' n0 n1 w' s.heap T'.heap (locs ++ Lc) := by
    refine ⟨by rw [e1]; exact hP', hD'.weaken (fun _ q _ hq => hF q.1 hq), hS', hY.2.2.2.1, Nat.le_trans hY.2.2.2.2.1 hn, fun z hz => ?_⟩
    have hnn := hY.2.2.2.2.1
    rw [hag z (by omega)]
    exact hY.2.2.2.2.2 z (by omega)
  obtain ⟨t2, a1, b1⟩ := kk r w' hQ p l e s m args below meth c D aC A ad0 ad' T'.heap (locs ++ Lc) ls hC hK hY' (by rw [hmv.1]; exact hl) T' rfl X'
  refine ⟨t2, stp t2 ?_, b1⟩
  have hstk : cvS ad' (pu r st) = (r.map Value.int).toList ++ cvS ad st := by
    cases r with
    | none => exact hmv.2
    | some x => show Value.int x :: cvS ad' st = Value.int x :: cvS ad st; rw [hmv.2]
  rw [hstk] at a1
  exact a1
theorem g_callV {Y' : MD} {d mc ms n1 idx : Nat} {av : List Value} {Y : MD} {R : Room} {Z : Zt} {n0 pc q n k j : Nat} {L st : List Value} {w : Wd} {b ci N : Nat} {T : u_T} (hcl : vwCl[ci]? = some (Y'.1.cls, T, N)) (hs : shn n b = (0, ci)) (hlk : Cond.methodLink Y.1.cls idx Y'.1 ∈ TB) (hw2 : Cond.instanceMethod Y'.1 ∈ TB) (hw3 : Cond.selects Y'.1.cls Y'.1 Y'.1 ∈ TB) (hw5 : Cond.code Y'.1 Y'.2.1 Y'.2.2.1 Y'.2.2.2.1 ∈ TB) (hw4 : Cond.initialized Y'.1.cls ∈ TB) (hpl : Y'.1.cls ≠ "java/lang/invoke/MethodHandle" ∧ Y'.1.cls ≠ "java/lang/invoke/VarHandle" ∧ (parseMethodDescriptor Y'.1.desc).map (fun d => d.parameters.length) = some av.length) (hR : d + 1 ≤ R.frames ∧ 8 + (Y'.2.2.1 + 11) + 50 * d ≤ R.locals) (hf : k + mc ≤ R.cells ∧ j + ms ≤ R.slots) (hst : (st.map fun v => v.category).sum ≤ 8) (hok : n1 = n ∨ (L.all (okV n) = true ∧ st.all (okV n) = true)) (hd : decode Y.2.1 pc = .ok (.invokevirtual idx, 3)) (hq : pc + 3 = q) (hE : Ex d mc ms Y' (.ref b :: av) n w n1 (fun r w' => G Y R Z n0 q L (pu r st) n1 w' (k + mc) (j + ms))) : G Y R Z n0 pc L (av.reverse ++ .ref b :: st) n w k j := by
  intro p l e s m args below meth c D aC A ad0 ad H locs ls hC hK hY hl
  have hT := hC.2.2.2.2.2.1
  have hF := A1_sub hY.2.1 hY.2.2.1 hY.2.2.2.1
  have hpre : ∀ U : State, U.heap = H → s.WarmedH U.vm → va_Pc (cvS ad (.ref b :: av)) (fun U => U.heap.size = H.size ∧ va_P D vwCl (wsOf aC n w ad) U.heap ∧ va_D (fun _ => True) (wsOf aC n w ad) ∧ Ks none D aC (va_A (wsOf aC n w ad) H.size) ad U) (cvS ad (.ref b :: av)).toArray U :=
    fun U hU hW => ⟨rfl, by rw [hU], by rw [hU]; exact hY.1, hY.2.1.weaken (fun _ _ _ _ => trivial), Ks_call hK hY.2.2.1 hF (fun q hq => hY.2.2.2.2.2 q (Or.inr (Or.inr hq))) hU hW⟩
  obtain ⟨hb, hsh⟩ := shn_lt hs (by show (0 : Nat) ≠ 9; decide)
  have he := wsOf_get (aC := aC) (w := w) (ad := ad) hb
  rw [cell_obj hsh] at he
  exact g_back hC hK hY hl (va_runV (As := cvS ad av) (rest := cvS ad st) ⟨hC.1, hC.2.1, hC.2.2.2.1, hC.2.2.2.2.1, hT⟩ (hE l D aC ad H.size) ⟨callB_of (own := Y.1.cls) (index := idx) (ws := wsM Y') (rm := rmd d mc ms) av.length hT (goodTB hw5) rfl rfl rfl (hT _ hw4) (hT _ hlk) hpl hR, hT _ hw2, hT _ hw3⟩ ⟨Pc_blind, va_recv hK.1 hY.1 hcl he, hpre⟩ rfl (by simp [cvS]) hl.1 (by simp [cvS, cv]) (lv_room (by rw [cvS_sum]; exact hst)) hd hf) hq hok (fun r w' h => h)
theorem g_callS {Y' : MD} {d mc ms n1 idx : Nat} {av : List Value} {Y : MD} {R : Room} {Z : Zt} {n0 pc q n k j : Nat} {L st : List Value} {w : Wd}  (hlk : Cond.methodLink Y.1.cls idx Y'.1 ∈ TB) (hw2 : Cond.static Y'.1 ∈ TB) (hw5 : Cond.code Y'.1 Y'.2.1 Y'.2.2.1 Y'.2.2.2.1 ∈ TB) (hw4 : Cond.initialized Y'.1.cls ∈ TB) (hpl : Y'.1.cls ≠ "java/lang/invoke/MethodHandle" ∧ Y'.1.cls ≠ "java/lang/invoke/VarHandle" ∧ (parseMethodDescriptor Y'.1.desc).map (fun d => d.parameters.length) = some av.length) (hR : d + 1 ≤ R.frames ∧ 8 + (Y'.2.2.1 + 11) + 50 * d ≤ R.locals) (hf : k + mc ≤ R.cells ∧ j + ms ≤ R.slots) (hst : (st.map fun v => v.category).sum ≤ 8) (hok : n1 = n ∨ (L.all (okV n) = true ∧ st.all (okV n) = true)) (hd : decode Y.2.1 pc = .ok (.invokestatic idx, 3)) (hq : pc + 3 = q) (hE : Ex d mc ms Y' (av) n w n1 (fun r w' => G Y R Z n0 q L (pu r st) n1 w' (k + mc) (j + ms))) : G Y R Z n0 pc L (av.reverse ++ st) n w k j := by
  intro p l e s m args below meth c D aC A ad0 ad H locs ls hC hK hY hl
  have hT := hC.2.2.2.2.2.1
  have hF := A1_sub hY.2.1 hY.2.2.1 hY.2.2.2.1
  have hpre : ∀ U : State, U.heap = H → s.WarmedH U.vm → va_Pc (cvS ad (av)) (fun U => U.heap.size = H.size ∧ va_P D vwCl (wsOf aC n w ad) U.heap ∧ va_D (fun _ => True) (wsOf aC n w ad) ∧ Ks none D aC (va_A (wsOf aC n w ad) H.size) ad U) (cvS ad (av)).toArray U :=
    fun U hU hW => ⟨rfl, by rw [hU], by rw [hU]; exact hY.1, hY.2.1.weaken (fun _ _ _ _ => trivial), Ks_call hK hY.2.2.1 hF (fun q hq => hY.2.2.2.2.2 q (Or.inr (Or.inr hq))) hU hW⟩

  exact g_back hC hK hY hl (va_runS (As := cvS ad av) (rest := cvS ad st) ⟨hC.1, hC.2.1, hC.2.2.2.1, hC.2.2.2.2.1, hT⟩ (hE l D aC ad H.size) ⟨callB_of (own := Y.1.cls) (index := idx) (ws := wsM Y') (rm := rmd d mc ms) av.length hT (goodTB hw5) rfl rfl rfl (hT _ hw4) (hT _ hlk) hpl hR, hT _ hw2⟩ ⟨Pc_blind, hpre⟩ rfl (by simp [cvS]) hl.1 (by simp [cvS, cv]) (lv_room (by rw [cvS_sum]; exact hst)) hd hf) hq hok (fun r w' h => h)
theorem g_callI {Y' : MD} {d mc ms n1 idx : Nat} {av : List Value} {Y : MD} {R : Room} {Z : Zt} {n0 pc q n k j : Nat} {L st : List Value} {w : Wd} {b : Nat} (hlk : Cond.methodLink Y.1.cls idx Y'.1 ∈ TB) (hw2 : Cond.instanceMethod Y'.1 ∈ TB) (hnm : Y'.1.name = "<init>") (hrt : Y'.2.2.2.1 = none) (hw5 : Cond.code Y'.1 Y'.2.1 Y'.2.2.1 Y'.2.2.2.1 ∈ TB) (hw4 : Cond.initialized Y'.1.cls ∈ TB) (hpl : Y'.1.cls ≠ "java/lang/invoke/MethodHandle" ∧ Y'.1.cls ≠ "java/lang/invoke/VarHandle" ∧ (parseMethodDescriptor Y'.1.desc).map (fun d => d.parameters.length) = some av.length) (hR : d + 1 ≤ R.frames ∧ 8 + (Y'.2.2.1 + 11) + 50 * d ≤ R.locals) (hf : k + mc ≤ R.cells ∧ j + ms ≤ R.slots) (hst : (st.map fun v => v.category).sum ≤ 8) (hok : n1 = n ∨ (L.all (okV n) = true ∧ st.all (okV n) = true)) (hd : decode Y.2.1 pc = .ok (.invokespecial idx, 3)) (hq : pc + 3 = q) (hE : Ex d mc ms Y' (.ref b :: av) n w n1 (fun r w' => G Y R Z n0 q L (pu r st) n1 w' (k + mc) (j + ms))) : G Y R Z n0 pc L (av.reverse ++ .ref b :: st) n w k j := by
  intro p l e s m args below meth c D aC A ad0 ad H locs ls hC hK hY hl
  have hT := hC.2.2.2.2.2.1
  have hF := A1_sub hY.2.1 hY.2.2.1 hY.2.2.2.1
  have hpre : ∀ U : State, U.heap = H → s.WarmedH U.vm → va_Pc (cvS ad (.ref b :: av)) (fun U => U.heap.size = H.size ∧ va_P D vwCl (wsOf aC n w ad) U.heap ∧ va_D (fun _ => True) (wsOf aC n w ad) ∧ Ks none D aC (va_A (wsOf aC n w ad) H.size) ad U) (cvS ad (.ref b :: av)).toArray U :=
    fun U hU hW => ⟨rfl, by rw [hU], by rw [hU]; exact hY.1, hY.2.1.weaken (fun _ _ _ _ => trivial), Ks_call hK hY.2.2.1 hF (fun q hq => hY.2.2.2.2.2 q (Or.inr (Or.inr hq))) hU hW⟩

  exact g_back hC hK hY hl (va_runI (b := ad b) (As := cvS ad av) (rest := cvS ad st) ⟨hC.1, hC.2.1, hC.2.2.2.1, hC.2.2.2.2.1, hT⟩ (hE l D aC ad H.size) ⟨by have z := callB_of (own := Y.1.cls) (index := idx) (ws := wsM Y') (rm := rmd d mc ms) av.length hT (goodTB hw5) rfl rfl rfl (hT _ hw4) (hT _ hlk) hpl hR; rw [hrt] at z; exact z, hnm, hT _ hw2⟩ ⟨Pc_blind, hpre⟩ rfl (by simp [cvS]) hl.1 (by simp [cvS, cv]) (lv_room (by rw [cvS_sum]; exact hst)) hd hf) hq hok (fun r w' h => h)
theorem g_callSN {Y' : MD} {d mc ms n1 idx : Nat} {av : List Value} {Y : MD} {R : Room} {Z : Zt} {n0 pc q n k j : Nat} {L st : List Value} {w : Wd} {host : String} (hlk : (Y.1.cls, idx, Y'.1, host) ∈ nestM) (hw2 : Cond.static Y'.1 ∈ TB) (hw5 : Cond.code Y'.1 Y'.2.1 Y'.2.2.1 Y'.2.2.2.1 ∈ TB) (hw4 : Cond.initialized Y'.1.cls ∈ TB) (hpl : Y'.1.cls ≠ "java/lang/invoke/MethodHandle" ∧ Y'.1.cls ≠ "java/lang/invoke/VarHandle" ∧ (parseMethodDescriptor Y'.1.desc).map (fun d => d.parameters.length) = some av.length) (hR : d + 1 ≤ R.frames ∧ 8 + (Y'.2.2.1 + 11) + 50 * d ≤ R.locals) (hf : k + mc ≤ R.cells ∧ j + ms ≤ R.slots) (hst : (st.map fun v => v.category).sum ≤ 8) (hok : n1 = n ∨ (L.all (okV n) = true ∧ st.all (okV n) = true)) (hd : decode Y.2.1 pc = .ok (.invokestatic idx, 3)) (hq : pc + 3 = q) (hE : Ex d mc ms Y' (av) n w n1 (fun r w' => G Y R Z n0 q L (pu r st) n1 w' (k + mc) (j + ms))) : G Y R Z n0 pc L (av.reverse ++ st) n w k j := by
  intro p l e s m args below meth c D aC A ad0 ad H locs ls hC hK hY hl
  have hT := hC.2.2.2.2.2.1
  have hF := A1_sub hY.2.1 hY.2.2.1 hY.2.2.2.1
  have hpre : ∀ U : State, U.heap = H → s.WarmedH U.vm → va_Pc (cvS ad (av)) (fun U => U.heap.size = H.size ∧ va_P D vwCl (wsOf aC n w ad) U.heap ∧ va_D (fun _ => True) (wsOf aC n w ad) ∧ Ks none D aC (va_A (wsOf aC n w ad) H.size) ad U) (cvS ad (av)).toArray U :=
    fun U hU hW => ⟨rfl, by rw [hU], by rw [hU]; exact hY.1, hY.2.1.weaken (fun _ _ _ _ => trivial), Ks_call hK hY.2.2.1 hF (fun q hq => hY.2.2.2.2.2 q (Or.inr (Or.inr hq))) hU hW⟩

  exact g_back hC hK hY hl (va_runSN (As := cvS ad av) (rest := cvS ad st) ⟨hC.1, hC.2.1, hC.2.2.2.1, hC.2.2.2.2.1, hT⟩ (hE l D aC ad H.size) ⟨va_cnB (own := Y.1.cls) (index := idx) (ws := wsM Y') (rm := rmd d mc ms) av.length hT (goodTB hw5) rfl rfl rfl (hK.2.1 _ hlk) (hT _ hw4) hpl hR, hT _ hw2, trivial⟩ ⟨Pc_blind, hpre⟩ rfl (by simp [cvS]) hl.1 (by simp [cvS, cv]) (lv_room (by rw [cvS_sum]; exact hst)) hd hf) hq hok (fun r w' h => h)
theorem g_callIN {Y' : MD} {d mc ms n1 idx : Nat} {av : List Value} {Y : MD} {R : Room} {Z : Zt} {n0 pc q n k j : Nat} {L st : List Value} {w : Wd} {b : Nat} {host : String} (hlk : (Y.1.cls, idx, Y'.1, host) ∈ nestM) (hw2 : Cond.instanceMethod Y'.1 ∈ TB) (hnm : Y'.1.name = "<init>") (hrt : Y'.2.2.2.1 = none) (hw5 : Cond.code Y'.1 Y'.2.1 Y'.2.2.1 Y'.2.2.2.1 ∈ TB) (hw4 : Cond.initialized Y'.1.cls ∈ TB) (hpl : Y'.1.cls ≠ "java/lang/invoke/MethodHandle" ∧ Y'.1.cls ≠ "java/lang/invoke/VarHandle" ∧ (parseMethodDescriptor Y'.1.desc).map (fun d => d.parameters.length) = some av.length) (hR : d + 1 ≤ R.frames ∧ 8 + (Y'.2.2.1 + 11) + 50 * d ≤ R.locals) (hf : k + mc ≤ R.cells ∧ j + ms ≤ R.slots) (hst : (st.map fun v => v.category).sum ≤ 8) (hok : n1 = n ∨ (L.all (okV n) = true ∧ st.all (okV n) = true)) (hd : decode Y.2.1 pc = .ok (.invokespecial idx, 3)) (hq : pc + 3 = q) (hE : Ex d mc ms Y' (.ref b :: av) n w n1 (fun r w' => G Y R Z n0 q L (pu r st) n1 w' (k + mc) (j + ms))) : G Y R Z n0 pc L (av.reverse ++ .ref b :: st) n w k j := by
  intro p l e s m args below meth c D aC A ad0 ad H locs ls hC hK hY hl
  have hT := hC.2.2.2.2.2.1
  have hF := A1_sub hY.2.1 hY.2.2.1 hY.2.2.2.1
  have hpre : ∀ U : State, U.heap = H → s.WarmedH U.vm → va_Pc (cvS ad (.ref b :: av)) (fun U => U.heap.size = H.size ∧ va_P D vwCl (wsOf aC n w ad) U.heap ∧ va_D (fun _ => True) (wsOf aC n w ad) ∧ Ks none D aC (va_A (wsOf aC n w ad) H.size) ad U) (cvS ad (.ref b :: av)).toArray U :=
    fun U hU hW => ⟨rfl, by rw [hU], by rw [hU]; exact hY.1, hY.2.1.weaken (fun _ _ _ _ => trivial), Ks_call hK hY.2.2.1 hF (fun q hq => hY.2.2.2.2.2 q (Or.inr (Or.inr hq))) hU hW⟩

  exact g_back hC hK hY hl (va_runIN (b := ad b) (As := cvS ad av) (rest := cvS ad st) ⟨hC.1, hC.2.1, hC.2.2.2.1, hC.2.2.2.2.1, hT⟩ (hE l D aC ad H.size) ⟨by have z := va_cnB (own := Y.1.cls) (index := idx) (ws := wsM Y') (rm := rmd d mc ms) av.length hT (goodTB hw5) rfl rfl rfl (hK.2.1 _ hlk) (hT _ hw4) hpl hR; rw [hrt] at z; exact z, hnm, hT _ hw2⟩ ⟨Pc_blind, hpre⟩ rfl (by simp [cvS]) hl.1 (by simp [cvS, cv]) (lv_room (by rw [cvS_sum]; exact hst)) hd hf) hq hok (fun r w' h => h)
def okA (v : Value) : Bool := match v with
  | .int _ => true
  | .ref _ => true
  | _ => false
theorem okA_sl {ad : Nat → Nat} : ∀ (av : List Value), av.all okA = true → (lg_sl (cvS ad av)).length = av.length ∧ ∀ (i k : Nat) (v : Value), av[k]? = some v → (i + k, cv ad v) ∈ lv_args i (cvS ad av) ∧ lov ad v = some (cv ad v) := by
  intro av
  induction av with
  | nil => intro _; exact ⟨rfl, fun i k v h => by simp at h⟩
  | cons u us ih =>
    intro h
    rw [List.all_cons, Bool.and_eq_true] at h
    obtain ⟨i1, i2⟩ := ih h.2
    have hc : (cv ad u).category = 1 := by
      rw [cv_cat]
      have h1 := h.1
      cases u <;> first | rfl | (simp [okA] at h1)
    have hlo : lov ad u = some (cv ad u) := by
      have h1 := h.1
      cases u <;> first | rfl | (simp [okA] at h1)
    refine ⟨?_, fun i k v hk => ?_⟩
    · have e : lg_sl (cvS ad (u :: us)) = [.val (cv ad u)] ++ lg_sl (cvS ad us) := by
        show lg_sl (cv ad u :: cvS ad us) = _
        simp [lg_sl, hc]
      rw [e, List.length_append, i1]
      simp
      omega
    · have e : lv_args i (cvS ad (u :: us)) = (i, cv ad u) :: lv_args (i + 1) (cvS ad us) := by
        show lv_args i (cv ad u :: cvS ad us) = _
        rw [lv_args, hc]
        simp
      rw [e]
      cases k with
      | zero =>
        have hk : u = v := by simpa using hk
        subst hk
        exact ⟨by simp, hlo⟩
      | succ k =>
        have hk : us[k]? = some v := by simpa using hk
        obtain ⟨a, b⟩ := i2 (i + 1) k v hk
        refine ⟨List.mem_cons_of_mem _ ?_, b⟩
        have : i + (k + 1) = i + 1 + k := by omega
        rw [this]
        exact a
theorem ex_intro {d mc ms : Nat} {Y : MD} {av : List Value} {n : Nat} {w : Wd} {n1 : Nat} {Q : Option Int32 → Wd → Prop} {L0 : List Value} (hpl : plainName Y.1.cls = true) (hsc : Y.2.2.2.2 = none) (hL : av ++ List.replicate (Y.2.2.1 - av.length) .null = L0) (hlen : av.length ≤ Y.2.2.1) (hok : av.all okA = true) (h : G Y (rmd d mc ms) (Zm Q n n1 mc ms) n 0 L0 [] n w 0 0) : Ex d mc ms Y av n w n1 Q := by
  intro l D aC ad sz
  refine Met.ofW (cc := Y.2.1) (maxL := Y.2.2.1) (ret := Y.2.2.2.1) hpl rfl ?_
  intro p e s m args below meth c s₁ B hml hv
  obtain ⟨rfl, hsz, hP, hD, hK⟩ := hv
  subst hsz
  obtain ⟨o1, o2⟩ := okA_sl (ad := ad) av hok
  have hl := lv_entry (cvS ad av) (n := Y.2.2.1) (by rw [o1]; exact hlen)
  rw [lg_entry_eq]
  generalize (lg_sl (cvS ad av) ++ List.replicate (Y.2.2.1 - (lg_sl (cvS ad av)).length) Slot.unset).toArray = ls at hl ⊢
  have hl : lv_has ls Y.2.2.1 (cvL ad 0 L0) := by
    refine lv_less hl (fun q hq => ?_)
    obtain ⟨i, v, h1, h2, h3⟩ := (mem_cvL L0 0 q).mp hq
    rw [← hL] at h1
    by_cases hi : i < av.length
    · rw [List.getElem?_append_left hi] at h1
      obtain ⟨a, b⟩ := o2 0 i v h1
      rw [b] at h3
      obtain ⟨x, y⟩ := q
      cases h3
      have h2 : x = 0 + i := h2
      rw [h2]
      exact a
    · rw [List.getElem?_append_right (by omega)] at h1
      have h1 := List.getElem?_replicate ▸ h1
      split at h1
      · cases h1
        simp [lov] at h3
      · cases h1
  have hnm := name_of_methodNamed B.named B.method
  have hK' : Ks Y.2.2.2.2 D aC (va_A (wsOf aC n w ad) s.heap.size) ad s := by rw [hsc]; exact hK
  exact h p l e s m _ below meth c D aC (va_A (wsOf aC n w ad) s.heap.size) ad ad s.heap [] ls ⟨B.exec, B.bytes, B.returns, hml, findClass_of_methodNamed B.named, fun w hw => atoms_spec (ws := wsM Y) B.pre w (List.mem_cons_of_mem _ hw), B.notSynchronized, fun hz => hnm.1.trans hz⟩ hK' ⟨hP, hD.self, va_S.rf, fun q hq => Or.inr hq, Nat.le_refl _, fun _ _ => rfl⟩ hl
end
