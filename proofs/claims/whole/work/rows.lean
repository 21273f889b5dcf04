section
-- ===== PART A: goes FIRST, ahead of the names: the tables' words, and 'selects' of the private methods out of them =====
/-- a private method of a class that the tables say can be made, by its rows of tables_1 -/
def lw_okq (q : MethodName × Nat) : Prop := (q.1.cls ≠ "java/lang/invoke/MethodHandle" ∧ q.1.cls ≠ "java/lang/invoke/VarHandle") ∧ Cond.instantiable q.1.cls q.2 ∈ tables_1 ∧ Cond.privateMethod q.1 ∈ tables_1 ∧ Cond.instanceMethod q.1 ∈ tables_1
theorem lw_p0 : lw_okq (⟨"Privacyledger", "endNow", "(I)I"⟩, 16) := ⟨⟨by decide +kernel, by decide +kernel⟩, List.mem_of_getElem? (i := 12) (by decide +kernel), List.mem_of_getElem? (i := 88) (by decide +kernel), List.mem_of_getElem? (i := 89) (by decide +kernel)⟩
theorem lw_p1 : lw_okq (⟨"Privacyledger", "purposesAllowedBy", "(I)I"⟩, 16) := ⟨⟨by decide +kernel, by decide +kernel⟩, List.mem_of_getElem? (i := 12) (by decide +kernel), List.mem_of_getElem? (i := 92) (by decide +kernel), List.mem_of_getElem? (i := 93) (by decide +kernel)⟩
theorem lw_p2 : lw_okq (⟨"Privacyledger", "allPurposes", "()I"⟩, 16) := ⟨⟨by decide +kernel, by decide +kernel⟩, List.mem_of_getElem? (i := 12) (by decide +kernel), List.mem_of_getElem? (i := 96) (by decide +kernel), List.mem_of_getElem? (i := 97) (by decide +kernel)⟩
theorem lw_p3 : lw_okq (⟨"Privacyledger", "heldRecords", "()I"⟩, 16) := ⟨⟨by decide +kernel, by decide +kernel⟩, List.mem_of_getElem? (i := 12) (by decide +kernel), List.mem_of_getElem? (i := 110) (by decide +kernel), List.mem_of_getElem? (i := 111) (by decide +kernel)⟩
theorem lw_p4 : lw_okq (⟨"Privacyledger", "checkRecord", "(I)V"⟩, 16) := ⟨⟨by decide +kernel, by decide +kernel⟩, List.mem_of_getElem? (i := 12) (by decide +kernel), List.mem_of_getElem? (i := 122) (by decide +kernel), List.mem_of_getElem? (i := 123) (by decide +kernel)⟩
theorem lw_p5 : lw_okq (⟨"java/lang/Throwable", "fillInStackTrace", "(I)Ljava/lang/Throwable;"⟩, 6) := ⟨⟨by decide +kernel, by decide +kernel⟩, List.mem_of_getElem? (i := 164) (by decide +kernel), List.mem_of_getElem? (i := 162) (by decide +kernel), List.mem_of_getElem? (i := 163) (by decide +kernel)⟩
theorem lw_p6 : lw_okq (⟨"Privacyledger", "allBelow", "(I)I"⟩, 16) := ⟨⟨by decide +kernel, by decide +kernel⟩, List.mem_of_getElem? (i := 12) (by decide +kernel), List.mem_of_getElem? (i := 194) (by decide +kernel), List.mem_of_getElem? (i := 195) (by decide +kernel)⟩
theorem lw_p7 : lw_okq (⟨"Privacyledger", "withAllBelow", "(I)I"⟩, 16) := ⟨⟨by decide +kernel, by decide +kernel⟩, List.mem_of_getElem? (i := 12) (by decide +kernel), List.mem_of_getElem? (i := 198) (by decide +kernel), List.mem_of_getElem? (i := 199) (by decide +kernel)⟩
theorem lw_p8 : lw_okq (⟨"Privacyledger", "moveToErased", "(I)V"⟩, 16) := ⟨⟨by decide +kernel, by decide +kernel⟩, List.mem_of_getElem? (i := 12) (by decide +kernel), List.mem_of_getElem? (i := 202) (by decide +kernel), List.mem_of_getElem? (i := 203) (by decide +kernel)⟩
theorem lw_p9 : lw_okq (⟨"Privacyledger", "dueRecords", "()I"⟩, 16) := ⟨⟨by decide +kernel, by decide +kernel⟩, List.mem_of_getElem? (i := 12) (by decide +kernel), List.mem_of_getElem? (i := 214) (by decide +kernel), List.mem_of_getElem? (i := 215) (by decide +kernel)⟩
theorem lw_p10 : lw_okq (⟨"Privacyledger", "isAnyOpen", "(III)Z"⟩, 16) := ⟨⟨by decide +kernel, by decide +kernel⟩, List.mem_of_getElem? (i := 12) (by decide +kernel), List.mem_of_getElem? (i := 218) (by decide +kernel), List.mem_of_getElem? (i := 219) (by decide +kernel)⟩
theorem lw_p11 : lw_okq (⟨"Privacyledger", "isRetained", "(II)Z"⟩, 16) := ⟨⟨by decide +kernel, by decide +kernel⟩, List.mem_of_getElem? (i := 12) (by decide +kernel), List.mem_of_getElem? (i := 222) (by decide +kernel), List.mem_of_getElem? (i := 223) (by decide +kernel)⟩
theorem lw_p12 : lw_okq (⟨"Privacyledger", "checkRetention", "(I)V"⟩, 16) := ⟨⟨by decide +kernel, by decide +kernel⟩, List.mem_of_getElem? (i := 12) (by decide +kernel), List.mem_of_getElem? (i := 235) (by decide +kernel), List.mem_of_getElem? (i := 236) (by decide +kernel)⟩
theorem lw_p13 : lw_okq (⟨"Privacyledger", "checkPurpose", "(I)V"⟩, 16) := ⟨⟨by decide +kernel, by decide +kernel⟩, List.mem_of_getElem? (i := 12) (by decide +kernel), List.mem_of_getElem? (i := 279) (by decide +kernel), List.mem_of_getElem? (i := 280) (by decide +kernel)⟩
theorem lw_p14 : lw_okq (⟨"Privacyledger", "checkSubject", "(I)V"⟩, 16) := ⟨⟨by decide +kernel, by decide +kernel⟩, List.mem_of_getElem? (i := 12) (by decide +kernel), List.mem_of_getElem? (i := 291) (by decide +kernel), List.mem_of_getElem? (i := 292) (by decide +kernel)⟩
theorem lw_p15 : lw_okq (⟨"Privacyledger", "checkPurposes", "(I)V"⟩, 16) := ⟨⟨by decide +kernel, by decide +kernel⟩, List.mem_of_getElem? (i := 12) (by decide +kernel), List.mem_of_getElem? (i := 320) (by decide +kernel), List.mem_of_getElem? (i := 321) (by decide +kernel)⟩
def lw_privs_1 : List (MethodName × Nat) := [(⟨"Privacyledger", "endNow", "(I)I"⟩, 16), (⟨"Privacyledger", "purposesAllowedBy", "(I)I"⟩, 16), (⟨"Privacyledger", "allPurposes", "()I"⟩, 16), (⟨"Privacyledger", "heldRecords", "()I"⟩, 16), (⟨"Privacyledger", "checkRecord", "(I)V"⟩, 16), (⟨"java/lang/Throwable", "fillInStackTrace", "(I)Ljava/lang/Throwable;"⟩, 6), (⟨"Privacyledger", "allBelow", "(I)I"⟩, 16), (⟨"Privacyledger", "withAllBelow", "(I)I"⟩, 16), (⟨"Privacyledger", "moveToErased", "(I)V"⟩, 16), (⟨"Privacyledger", "dueRecords", "()I"⟩, 16), (⟨"Privacyledger", "isAnyOpen", "(III)Z"⟩, 16), (⟨"Privacyledger", "isRetained", "(II)Z"⟩, 16), (⟨"Privacyledger", "checkRetention", "(I)V"⟩, 16), (⟨"Privacyledger", "checkPurpose", "(I)V"⟩, 16), (⟨"Privacyledger", "checkSubject", "(I)V"⟩, 16), (⟨"Privacyledger", "checkPurposes", "(I)V"⟩, 16)]
theorem lw_r1 : ∀ q ∈ lw_privs_1, lw_okq q := List.forall_mem_cons.mpr ⟨lw_p0, List.forall_mem_cons.mpr ⟨lw_p1, List.forall_mem_cons.mpr ⟨lw_p2, List.forall_mem_cons.mpr ⟨lw_p3, List.forall_mem_cons.mpr ⟨lw_p4, List.forall_mem_cons.mpr ⟨lw_p5, List.forall_mem_cons.mpr ⟨lw_p6, List.forall_mem_cons.mpr ⟨lw_p7, List.forall_mem_cons.mpr ⟨lw_p8, List.forall_mem_cons.mpr ⟨lw_p9, List.forall_mem_cons.mpr ⟨lw_p10, List.forall_mem_cons.mpr ⟨lw_p11, List.forall_mem_cons.mpr ⟨lw_p12, List.forall_mem_cons.mpr ⟨lw_p13, List.forall_mem_cons.mpr ⟨lw_p14, List.forall_mem_cons.mpr ⟨lw_p15, fun _ h => absurd h List.not_mem_nil⟩⟩⟩⟩⟩⟩⟩⟩⟩⟩⟩⟩⟩⟩⟩⟩
theorem lw_p16 : lw_okq (⟨"Privacyledger", "addRecord", "(III)I"⟩, 16) := ⟨⟨by decide +kernel, by decide +kernel⟩, List.mem_of_getElem? (i := 12) (by decide +kernel), List.mem_of_getElem? (i := 326) (by decide +kernel), List.mem_of_getElem? (i := 327) (by decide +kernel)⟩
theorem lw_p17 : lw_okq (⟨"Privacyledger", "isRoot", "(I)Z"⟩, 16) := ⟨⟨by decide +kernel, by decide +kernel⟩, List.mem_of_getElem? (i := 12) (by decide +kernel), List.mem_of_getElem? (i := 349) (by decide +kernel), List.mem_of_getElem? (i := 350) (by decide +kernel)⟩
theorem lw_p18 : lw_okq (⟨"Privacyledger", "addSubjects", "(II)V"⟩, 16) := ⟨⟨by decide +kernel, by decide +kernel⟩, List.mem_of_getElem? (i := 12) (by decide +kernel), List.mem_of_getElem? (i := 355) (by decide +kernel), List.mem_of_getElem? (i := 356) (by decide +kernel)⟩
theorem lw_p19 : lw_okq (⟨"Privacyledger", "countDaysWithConsent", "(I)V"⟩, 16) := ⟨⟨by decide +kernel, by decide +kernel⟩, List.mem_of_getElem? (i := 12) (by decide +kernel), List.mem_of_getElem? (i := 427) (by decide +kernel), List.mem_of_getElem? (i := 428) (by decide +kernel)⟩
theorem lw_p20 : lw_okq (⟨"Privacyledger", "requestWithAllBelow", "(I)I"⟩, 16) := ⟨⟨by decide +kernel, by decide +kernel⟩, List.mem_of_getElem? (i := 12) (by decide +kernel), List.mem_of_getElem? (i := 431) (by decide +kernel), List.mem_of_getElem? (i := 432) (by decide +kernel)⟩
theorem lw_p21 : lw_okq (⟨"Privacyledger", "checkCase", "(I)V"⟩, 16) := ⟨⟨by decide +kernel, by decide +kernel⟩, List.mem_of_getElem? (i := 12) (by decide +kernel), List.mem_of_getElem? (i := 442) (by decide +kernel), List.mem_of_getElem? (i := 443) (by decide +kernel)⟩
theorem lw_p22 : lw_okq (⟨"Privacyledger", "recordsOf", "(I)I"⟩, 16) := ⟨⟨by decide +kernel, by decide +kernel⟩, List.mem_of_getElem? (i := 12) (by decide +kernel), List.mem_of_getElem? (i := 463) (by decide +kernel), List.mem_of_getElem? (i := 464) (by decide +kernel)⟩
theorem lw_p23 : lw_okq (⟨"Privacyledger", "rootsOf", "(I)I"⟩, 16) := ⟨⟨by decide +kernel, by decide +kernel⟩, List.mem_of_getElem? (i := 12) (by decide +kernel), List.mem_of_getElem? (i := 485) (by decide +kernel), List.mem_of_getElem? (i := 486) (by decide +kernel)⟩
theorem lw_p24 : lw_okq (⟨"PrivacyledgerModel", "fails", "(I)I"⟩, 15) := ⟨⟨by decide +kernel, by decide +kernel⟩, List.mem_of_getElem? (i := 489) (by decide +kernel), List.mem_of_getElem? (i := 553) (by decide +kernel), List.mem_of_getElem? (i := 554) (by decide +kernel)⟩
theorem lw_p25 : lw_okq (⟨"PrivacyledgerModel", "isPurpose", "(I)Z"⟩, 15) := ⟨⟨by decide +kernel, by decide +kernel⟩, List.mem_of_getElem? (i := 489) (by decide +kernel), List.mem_of_getElem? (i := 561) (by decide +kernel), List.mem_of_getElem? (i := 562) (by decide +kernel)⟩
theorem lw_p26 : lw_okq (⟨"PrivacyledgerModel", "isSet", "(I)Z"⟩, 15) := ⟨⟨by decide +kernel, by decide +kernel⟩, List.mem_of_getElem? (i := 489) (by decide +kernel), List.mem_of_getElem? (i := 587) (by decide +kernel), List.mem_of_getElem? (i := 588) (by decide +kernel)⟩
theorem lw_p27 : lw_okq (⟨"PrivacyledgerModel", "endBy", "(III)I"⟩, 15) := ⟨⟨by decide +kernel, by decide +kernel⟩, List.mem_of_getElem? (i := 489) (by decide +kernel), List.mem_of_getElem? (i := 591) (by decide +kernel), List.mem_of_getElem? (i := 592) (by decide +kernel)⟩
theorem lw_p28 : lw_okq (⟨"PrivacyledgerModel", "isAllowed", "(II)Z"⟩, 15) := ⟨⟨by decide +kernel, by decide +kernel⟩, List.mem_of_getElem? (i := 489) (by decide +kernel), List.mem_of_getElem? (i := 595) (by decide +kernel), List.mem_of_getElem? (i := 596) (by decide +kernel)⟩
theorem lw_p29 : lw_okq (⟨"PrivacyledgerModel", "lays", "(III)I"⟩, 15) := ⟨⟨by decide +kernel, by decide +kernel⟩, List.mem_of_getElem? (i := 489) (by decide +kernel), List.mem_of_getElem? (i := 599) (by decide +kernel), List.mem_of_getElem? (i := 600) (by decide +kernel)⟩
theorem lw_p30 : lw_okq (⟨"PrivacyledgerModel", "isRecord", "(I)Z"⟩, 15) := ⟨⟨by decide +kernel, by decide +kernel⟩, List.mem_of_getElem? (i := 489) (by decide +kernel), List.mem_of_getElem? (i := 607) (by decide +kernel), List.mem_of_getElem? (i := 608) (by decide +kernel)⟩
theorem lw_p31 : lw_okq (⟨"PrivacyledgerModel", "subjects", "(I)I"⟩, 15) := ⟨⟨by decide +kernel, by decide +kernel⟩, List.mem_of_getElem? (i := 489) (by decide +kernel), List.mem_of_getElem? (i := 611) (by decide +kernel), List.mem_of_getElem? (i := 612) (by decide +kernel)⟩
def lw_privs_2 : List (MethodName × Nat) := [(⟨"Privacyledger", "addRecord", "(III)I"⟩, 16), (⟨"Privacyledger", "isRoot", "(I)Z"⟩, 16), (⟨"Privacyledger", "addSubjects", "(II)V"⟩, 16), (⟨"Privacyledger", "countDaysWithConsent", "(I)V"⟩, 16), (⟨"Privacyledger", "requestWithAllBelow", "(I)I"⟩, 16), (⟨"Privacyledger", "checkCase", "(I)V"⟩, 16), (⟨"Privacyledger", "recordsOf", "(I)I"⟩, 16), (⟨"Privacyledger", "rootsOf", "(I)I"⟩, 16), (⟨"PrivacyledgerModel", "fails", "(I)I"⟩, 15), (⟨"PrivacyledgerModel", "isPurpose", "(I)Z"⟩, 15), (⟨"PrivacyledgerModel", "isSet", "(I)Z"⟩, 15), (⟨"PrivacyledgerModel", "endBy", "(III)I"⟩, 15), (⟨"PrivacyledgerModel", "isAllowed", "(II)Z"⟩, 15), (⟨"PrivacyledgerModel", "lays", "(III)I"⟩, 15), (⟨"PrivacyledgerModel", "isRecord", "(I)Z"⟩, 15), (⟨"PrivacyledgerModel", "subjects", "(I)I"⟩, 15)]
theorem lw_r2 : ∀ q ∈ lw_privs_2, lw_okq q := List.forall_mem_cons.mpr ⟨lw_p16, List.forall_mem_cons.mpr ⟨lw_p17, List.forall_mem_cons.mpr ⟨lw_p18, List.forall_mem_cons.mpr ⟨lw_p19, List.forall_mem_cons.mpr ⟨lw_p20, List.forall_mem_cons.mpr ⟨lw_p21, List.forall_mem_cons.mpr ⟨lw_p22, List.forall_mem_cons.mpr ⟨lw_p23, List.forall_mem_cons.mpr ⟨lw_p24, List.forall_mem_cons.mpr ⟨lw_p25, List.forall_mem_cons.mpr ⟨lw_p26, List.forall_mem_cons.mpr ⟨lw_p27, List.forall_mem_cons.mpr ⟨lw_p28, List.forall_mem_cons.mpr ⟨lw_p29, List.forall_mem_cons.mpr ⟨lw_p30, List.forall_mem_cons.mpr ⟨lw_p31, fun _ h => absurd h List.not_mem_nil⟩⟩⟩⟩⟩⟩⟩⟩⟩⟩⟩⟩⟩⟩⟩⟩
theorem lw_p32 : lw_okq (⟨"PrivacyledgerModel", "aboveOf", "(I)I"⟩, 15) := ⟨⟨by decide +kernel, by decide +kernel⟩, List.mem_of_getElem? (i := 489) (by decide +kernel), List.mem_of_getElem? (i := 615) (by decide +kernel), List.mem_of_getElem? (i := 616) (by decide +kernel)⟩
theorem lw_p33 : lw_okq (⟨"PrivacyledgerModel", "belowOf", "(I)I"⟩, 15) := ⟨⟨by decide +kernel, by decide +kernel⟩, List.mem_of_getElem? (i := 489) (by decide +kernel), List.mem_of_getElem? (i := 642) (by decide +kernel), List.mem_of_getElem? (i := 643) (by decide +kernel)⟩
theorem lw_p34 : lw_okq (⟨"PrivacyledgerModel", "end", "(I)I"⟩, 15) := ⟨⟨by decide +kernel, by decide +kernel⟩, List.mem_of_getElem? (i := 489) (by decide +kernel), List.mem_of_getElem? (i := 650) (by decide +kernel), List.mem_of_getElem? (i := 651) (by decide +kernel)⟩
theorem lw_p35 : lw_okq (⟨"PrivacyledgerModel", "reason", "(II)I"⟩, 15) := ⟨⟨by decide +kernel, by decide +kernel⟩, List.mem_of_getElem? (i := 489) (by decide +kernel), List.mem_of_getElem? (i := 658) (by decide +kernel), List.mem_of_getElem? (i := 659) (by decide +kernel)⟩
theorem lw_p36 : lw_okq (⟨"PrivacyledgerModel", "dueSet", "()I"⟩, 15) := ⟨⟨by decide +kernel, by decide +kernel⟩, List.mem_of_getElem? (i := 489) (by decide +kernel), List.mem_of_getElem? (i := 674) (by decide +kernel), List.mem_of_getElem? (i := 675) (by decide +kernel)⟩
theorem lw_p37 : lw_okq (⟨"PrivacyledgerModel", "asks", "(I)I"⟩, 15) := ⟨⟨by decide +kernel, by decide +kernel⟩, List.mem_of_getElem? (i := 489) (by decide +kernel), List.mem_of_getElem? (i := 678) (by decide +kernel), List.mem_of_getElem? (i := 679) (by decide +kernel)⟩
theorem lw_p38 : lw_okq (⟨"PrivacyledgerModel", "heldSet", "()I"⟩, 15) := ⟨⟨by decide +kernel, by decide +kernel⟩, List.mem_of_getElem? (i := 489) (by decide +kernel), List.mem_of_getElem? (i := 698) (by decide +kernel), List.mem_of_getElem? (i := 699) (by decide +kernel)⟩
theorem lw_p39 : lw_okq (⟨"PrivacyledgerModel", "kept", "(I)I"⟩, 15) := ⟨⟨by decide +kernel, by decide +kernel⟩, List.mem_of_getElem? (i := 489) (by decide +kernel), List.mem_of_getElem? (i := 714) (by decide +kernel), List.mem_of_getElem? (i := 715) (by decide +kernel)⟩
theorem lw_p40 : lw_okq (⟨"PrivacyledgerModel", "eraseOne", "()I"⟩, 15) := ⟨⟨by decide +kernel, by decide +kernel⟩, List.mem_of_getElem? (i := 489) (by decide +kernel), List.mem_of_getElem? (i := 722) (by decide +kernel), List.mem_of_getElem? (i := 723) (by decide +kernel)⟩
theorem lw_p41 : lw_okq (⟨"PrivacyledgerModel", "tracesOf", "(I)I"⟩, 15) := ⟨⟨by decide +kernel, by decide +kernel⟩, List.mem_of_getElem? (i := 489) (by decide +kernel), List.mem_of_getElem? (i := 734) (by decide +kernel), List.mem_of_getElem? (i := 735) (by decide +kernel)⟩
def lw_privs_3 : List (MethodName × Nat) := [(⟨"PrivacyledgerModel", "aboveOf", "(I)I"⟩, 15), (⟨"PrivacyledgerModel", "belowOf", "(I)I"⟩, 15), (⟨"PrivacyledgerModel", "end", "(I)I"⟩, 15), (⟨"PrivacyledgerModel", "reason", "(II)I"⟩, 15), (⟨"PrivacyledgerModel", "dueSet", "()I"⟩, 15), (⟨"PrivacyledgerModel", "asks", "(I)I"⟩, 15), (⟨"PrivacyledgerModel", "heldSet", "()I"⟩, 15), (⟨"PrivacyledgerModel", "kept", "(I)I"⟩, 15), (⟨"PrivacyledgerModel", "eraseOne", "()I"⟩, 15), (⟨"PrivacyledgerModel", "tracesOf", "(I)I"⟩, 15)]
theorem lw_r3 : ∀ q ∈ lw_privs_3, lw_okq q := List.forall_mem_cons.mpr ⟨lw_p32, List.forall_mem_cons.mpr ⟨lw_p33, List.forall_mem_cons.mpr ⟨lw_p34, List.forall_mem_cons.mpr ⟨lw_p35, List.forall_mem_cons.mpr ⟨lw_p36, List.forall_mem_cons.mpr ⟨lw_p37, List.forall_mem_cons.mpr ⟨lw_p38, List.forall_mem_cons.mpr ⟨lw_p39, List.forall_mem_cons.mpr ⟨lw_p40, List.forall_mem_cons.mpr ⟨lw_p41, fun _ h => absurd h List.not_mem_nil⟩⟩⟩⟩⟩⟩⟩⟩⟩⟩
def lw_privs : List (MethodName × Nat) := lw_privs_1 ++ (lw_privs_2 ++ (lw_privs_3))
def lw_tbl : List Cond := k2_sels lw_privs ++ tables_1
theorem lw_privs_ok : ∀ q ∈ lw_privs, lw_okq q := by
  show ∀ q ∈ lw_privs_1 ++ (lw_privs_2 ++ (lw_privs_3)), lw_okq q
  exact List.forall_mem_append.mpr ⟨lw_r1, List.forall_mem_append.mpr ⟨lw_r2, lw_r3⟩⟩
-- ===== end of PART A; then your names; then what follows =====
end
section
/-! ===== BEGIN words of one list among another's, by their places ===== -/
theorem goodIn_r {big : List Cond} (ws : List Cond) (ps : List Nat) (hp : ws = ps.filterMap (fun i => big[i]?)) (h : ws.all goodWord = true) : GoodIn big ws := by
  intro w hw
  have h1 := List.all_eq_true.mp h w hw
  rw [hp] at hw
  obtain ⟨i, -, hi⟩ := List.mem_filterMap.mp hw
  have hm : w ∈ big := by first | exact List.mem_of_getElem? hi | exact List.getElem?_mem hi
  exact ⟨hm, good_of_word h1⟩
theorem goodIn_app {big a b : List Cond} (ha : GoodIn big a) (hb : GoodIn big b) : GoodIn big (a ++ b) := fun w h => (List.mem_append.mp h).elim (ha w) (hb w)
theorem goodIn_ca {big a b : List Cond} {c : Cond} (ha : GoodIn big (c :: a)) (hb : GoodIn big b) : GoodIn big (c :: (a ++ b)) := fun w h => (List.mem_cons.mp h).elim (fun e => ha w (List.mem_cons.mpr (Or.inl e))) (fun h => (List.mem_append.mp h).elim (fun h => ha w (List.mem_cons.mpr (Or.inr h))) (hb w))
theorem goodIn_sub {big ws : List Cond} (hm : ∀ w ∈ ws, w ∈ big) (h : ws.all goodWord = true) : GoodIn big ws := fun w hw => ⟨hm w hw, good_of_word (List.all_eq_true.mp h w hw)⟩
/-! ===== END ===== -/

/-! ===== BEGIN exceptions that leave a method, and their catching by the caller (launches without stack traces) ===== -/
section VXA
/-! The laws vx_back, vx_callV, vx_callS, vx_callSW, vx_throw0, vx_throwS follow proofs of the library, with one case more: JvmDerived/Free/Laws.lean (Back.of_free), Shelf42/LK1.lean (callV, callS), Shelf/KitTraced.lean (throwNew0V, throwNewS). -/
/-- where a method has thrown q: the class by its name, the cell, what was written, the world -/
def vx_T (XC : String → State → State → Prop) (st : State) (q : Addr) (t : State) (mc ms : Nat) (free : Addr → Prop) : Prop :=
  ∃ (E : String) (ce : Cell) (L : List Loc), XC E st t ∧ t.heap[q]? = some ce ∧ ce.vm = .none ∧ st.vm.findClass E = some ce.cls ∧ st.WarmedH t.vm ∧ st.sameButNew ({ t with vm := st.vm } : State) L mc ms ∧ ∀ z ∈ L, free z.base
def vx_Q (Qc : Array Value → State → Outcome → State → Prop) (XC : String → State → State → Prop) (mc ms : Nat) (free : Addr → Prop) : Array Value → State → Outcome → State → Prop := fun a st o t =>
  (Qc a st o t ∧ ∃ L, FrameEnd st o t L mc ms ∧ ∀ q ∈ L, free q.base) ∨ ∃ q, o = .threw q ∧ vx_T XC st q t mc ms free
/-- a callee that returns or throws -/
def vx_Met (l : Launch) (y : MethodName) (ws : List Cond) (rm : Room) (Pc : Array Value → State → Prop) (Qc : Array Value → State → Outcome → State → Prop) (XC : String → State → State → Prop) (mc ms : Nat) (free : Addr → Prop) : Prop :=
  MetFree l y (headSpec ws rm) Pc (fun _ _ _ _ _ => True) (vx_Q Qc XC mc ms free)
def vx_Post (XC : String → State → State → Prop) (mc ms : Nat) (free : Addr → Prop) : Pt → Array Value → Addr → Pt → Prop := fun A a q B =>
  ∃ (g : JFrame) (mk : MethodId) (t : State) (L : List Loc) (E : String) (ce : Cell), B.U.heap = t.heap ∧ B.U.vm = t.vm ∧ XC E (A.U.calling g mk a) t ∧ t.heap[q]? = some ce ∧ ce.vm = .none ∧ A.U.vm.findClass E = some ce.cls ∧ B.locs = A.locs ++ L ∧ (∀ z ∈ L, free z.base) ∧ B.cells = A.cells + mc ∧ B.slots = A.slots + ms
def vx_Back (l : Launch) (R : Room) (p : Program) (e : Env) (below : List Frame) (s : State) (sargs : Array Value) (y : MethodName) (len W9 : Nat)
    (Pre : Pt → Array Value → Prop) (Post : Pt → Array Value → Option Value → Pt → Prop) (PostX : Pt → Array Value → Addr → Pt → Prop) : Prop :=
  ∀ (m : MethodId) (meth : Method) (c : Code) (A : Pt) (g : JFrame) (ig : Instr) (mk : MethodId) (a : Array Value),
    Stand p l e R s m sargs below meth c A.U A.locs A.cells A.slots → g.method = m → g.locals.size = c.maxLocals → decode c.code g.pc = .ok (ig, len) →
    2 * g.monitorRoom + (g.stack.map fun v => v.category).sum ≤ W9 → A.U.methodNamed? y = some mk → Pre A a →
    (∃ (v : Option Value) (B : Pt), Stand p l e R s m sargs below meth c B.U B.locs B.cells B.slots ∧ Post A a v B ∧
      Steps p.tables e below (doInvoke e (A.U.setTop g) [] mk a).1 (B.U.setTop { g with pc := g.pc + len, stack := v.toList ++ g.stack })) ∨
    (∃ (q : Addr) (B : Pt), Stand p l e R s m sargs below meth c B.U B.locs B.cells B.slots ∧ PostX A a q B ∧
      Steps p.tables e below (doInvoke e (A.U.setTop g) [] mk a).1 ((B.U.setTop g).pushFrame (.throwing q)))
section Payer
variable {l : Launch} {R : Room} {p : Program} {e : Env} {below : List Frame} {s : State} {sargs : Array Value} {y : MethodName} {len W9 : Nat}
theorem vx_back {ws : List Cond} {rm : Room} {Pc : Array Value → State → Prop} {Qc : Array Value → State → Outcome → State → Prop} {XC : String → State → State → Prop} {mc ms : Nat} {free : Addr → Prop} {bytes : ByteArray} {maxL : Nat} {ret : Option FieldType}
    (hM : vx_Met l y ws rm Pc Qc XC mc ms free) (hblind : FrameBlind Pc) (hrc : rm.cells = mc) (hrs : rm.slots = ms)
    (hframes : rm.frames + 1 ≤ R.frames) (hlocals : W9 + (maxL + 11) + rm.locals ≤ R.locals)
    (hws : ∀ w ∈ ws, ∀ a' U, s.WarmedH U.vm → w.before a' U = true) (hcode : Cond.code y bytes maxL ret ∈ ws) (hinit : ∀ a' U, s.WarmedH U.vm → (Cond.initialized y.cls).before a' U = true) :
    vx_Back l R p e below s sargs y len W9 (PreOf R mc ms Pc) (PostOf Qc mc ms free) (vx_Post XC mc ms free) := by
  intro m meth c A g ig mk a X hg hsize hdg hW hn hp
  have h1 : (headSpec ws rm).pre.before a A.U = true := atoms_intro fun w hw => hws w hw _ _ X.warmed
  have h2 : (Cond.code y bytes maxL ret).before a A.U = true := hws _ hcode _ _ X.warmed
  have h3 : (Cond.initialized y.cls).before a A.U = true := hinit _ _ X.warmed
  have h4 : A.cells + (headSpec ws rm).room.cells ≤ R.cells := by rw [show (headSpec ws rm).room.cells = mc from hrc]; exact hp.1
  have h5 : A.slots + (headSpec ws rm).room.slots ≤ R.slots := by rw [show (headSpec ws rm).room.slots = ms from hrs]; exact hp.2.1
  have hPc : Pc a (A.U.calling g mk a) := hblind _ _ _ _ hp.2.2
  obtain ⟨U, Ls, c0, s0⟩ := A
  dsimp only [Pt.U, Pt.locs, Pt.cells, Pt.slots] at h1 h2 h3 h4 h5 X hn hPc ⊢
  obtain ⟨methY, cY, hmY, hcY, -, hlY, -, -, -, -⟩ := Cond.code_spec hn h2
  obtain ⟨kY, hkY, -⟩ := className_of_methodNamed hn
  have hinitY : kY.init = .initialized := Cond.initialized_spec (findClass_of_methodNamed hn) hkY h3
  have h : At U g.method c below := by rw [hg]; exact X.here
  have hlocals9 : W9 + (maxL + 11) + (headSpec ws rm).room.locals ≤ R.locals := hlocals
  have happ : (headSpec ws rm).appliesLoose y e.platform (U.calling g mk a) = true :=
    Spec.appliesLoose_calling (g := g) h hdg hn hkY hinitY
      (X.room_calling (g := g) (R' := (headSpec ws rm).room) hsize hmY hcY hframes (by rw [hlY]; omega) h4 h5) h1
  obtain ⟨mid, hmid⟩ := h.above
  have hfr : (U.setTop g).frames = (.java g :: mid) ++ below := by rw [State.frames_setTop' g h.top, hmid]; rfl
  obtain ⟨o, s₂, hsteps, -, hend, hq⟩ := Steps.callFree hM p X.admits X.cas X.clock (acts := []) hfr happ hPc trivial
  have hq' : vx_Q Qc XC mc ms free a (U.calling g mk a) o s₂ := hq
  rw [State.frames_setTop' g h.top] at hend
  obtain ⟨g₀, hg0⟩ := Option.isSome_iff_exists.mp h.top
  obtain ⟨r, hr⟩ := State.topJava?_eq_some.mp hg0
  have hr' : (({ U with heap := s₂.heap, slotsUsed := s₂.slotsUsed } : State).setVm s₂.vm).frames = .java g₀ :: r := hr
  rcases hq' with ⟨hqc, L, hfe, hL⟩ | ⟨q, rfl, E, ce, L, hx, hce, hcv, hcl, hW₂, hsm, hL⟩
  · obtain ⟨⟨v, rfl⟩, hW₂, e2, q2, q3, q4, q5, q6⟩ := id hfe
    have e3 : s₂ = ({ (U.calling g mk a).setFrames s₂.frames with heap := s₂.heap, slotsUsed := s₂.slotsUsed } : State).setVm s₂.vm := by
      have : s₂ = ({ s₂ with vm := (U.calling g mk a).vm } : State).setVm s₂.vm := rfl
      rw [e2] at this
      exact this
    obtain ⟨c₂, i₂, len₂, hc₂, hd₂, hf₂⟩ := hend
    have hW' : U.WarmedH s₂.vm := hW₂
    have hcc : c₂ = c := by
      have h1 : s₂.code? g.method = U.code? g.method := by
        rw [State.code?_eq, State.code?_eq, hW'.alike.method?]
      exact Option.some.inj (hc₂.symm.trans (h1.trans h.code))
    subst hcc
    have hlen : len₂ = len := by rw [hdg] at hd₂; cases hd₂; rfl
    subst hlen
    have hs₂ : s₂ = (({ U with heap := s₂.heap, slotsUsed := s₂.slotsUsed } : State).setVm s₂.vm).setTop { g with pc := g.pc + len₂, stack := v.toList ++ g.stack } := by
      refine e3.trans ?_
      rw [hf₂, State.calling_eq h.top, State.setFrames_setFrames, State.setTop_of_frames _ hr', hr]
      rfl
    have hsame : U.sameButNew ({ U with heap := s₂.heap, slotsUsed := s₂.slotsUsed } : State) L mc ms := by
      refine ⟨?_, q2, q3, q4, q5, q6⟩
      obtain ⟨t, ht, -⟩ := State.frames_cons hr
      show ({ U with heap := s₂.heap, slotsUsed := s₂.slotsUsed } : State) = { U.setFrames U.frames with heap := s₂.heap, slotsUsed := s₂.slotsUsed }
      rw [State.setFrames_self ht]
    subst hg
    refine Or.inl ⟨v, ⟨(({ U with heap := s₂.heap, slotsUsed := s₂.slotsUsed } : State).setVm s₂.vm), Ls ++ L, c0 + mc, s0 + ms⟩,
      ⟨X.admits, X.cas, X.clock, X.frames, X.room, X.hears, X.method, X.code, (X.here.setHeapUsed s₂.heap s₂.slotsUsed).setVm hW'.alike, X.tail, State.WarmedH.trans X.warmed hW', X.limits, X.bytes, X.same.trans (hsame.setVm s.vm)⟩,
      ⟨g, mk, s₂, L, rfl, rfl, hqc, rfl, hL, rfl, rfl⟩, ?_⟩
    show Steps p.tables e below _ ((({ U with heap := s₂.heap, slotsUsed := s₂.slotsUsed } : State).setVm s₂.vm).setTop { g with pc := g.pc + len₂, stack := v.toList ++ g.stack })
    rw [← hs₂]
    exact hsteps
  · obtain ⟨e2, q2, q3, q4, q5, q6⟩ := id hsm
    have e3 : s₂ = ({ (U.calling g mk a).setFrames s₂.frames with heap := s₂.heap, slotsUsed := s₂.slotsUsed } : State).setVm s₂.vm := by
      have : s₂ = ({ s₂ with vm := (U.calling g mk a).vm } : State).setVm s₂.vm := rfl
      rw [e2] at this
      exact this
    have hf₂ : s₂.frames = .throwing q :: .java g :: U.frames.tail := hend
    have hW' : U.WarmedH s₂.vm := hW₂
    have hs₂ : s₂ = ((({ U with heap := s₂.heap, slotsUsed := s₂.slotsUsed } : State).setVm s₂.vm).setTop g).pushFrame (.throwing q) := by
      refine e3.trans ?_
      rw [hf₂, State.calling_eq h.top, State.setFrames_setFrames, State.pushFrame, State.frames_setTop _ hr', State.setTop_of_frames _ hr', State.setFrames_setFrames, hr]
      rfl
    have hsame : U.sameButNew ({ U with heap := s₂.heap, slotsUsed := s₂.slotsUsed } : State) L mc ms := by
      refine ⟨?_, q2, q3, q4, q5, q6⟩
      obtain ⟨t, ht, -⟩ := State.frames_cons hr
      show ({ U with heap := s₂.heap, slotsUsed := s₂.slotsUsed } : State) = { U.setFrames U.frames with heap := s₂.heap, slotsUsed := s₂.slotsUsed }
      rw [State.setFrames_self ht]
    subst hg
    refine Or.inr ⟨q, ⟨(({ U with heap := s₂.heap, slotsUsed := s₂.slotsUsed } : State).setVm s₂.vm), Ls ++ L, c0 + mc, s0 + ms⟩,
      ⟨X.admits, X.cas, X.clock, X.frames, X.room, X.hears, X.method, X.code, (X.here.setHeapUsed s₂.heap s₂.slotsUsed).setVm hW'.alike, X.tail, State.WarmedH.trans X.warmed hW', X.limits, X.bytes, X.same.trans (hsame.setVm s.vm)⟩,
      ⟨g, mk, s₂, L, E, ce, rfl, rfl, hx, hce, hcv, hcl, rfl, hL, rfl, rfl⟩, ?_⟩
    show Steps p.tables e below _ (((({ U with heap := s₂.heap, slotsUsed := s₂.slotsUsed } : State).setVm s₂.vm).setTop g).pushFrame (.throwing q))
    rw [← hs₂]
    exact hsteps
end Payer
section Calls
variable {p : Program} {l : Launch} {e : Env} {R : Room} {s : State} {m : MethodId} {args : Array Value} {below : List Frame} {meth : Method} {c : Code} {T : State} {locs : List Loc} {cells slots : Nat}
theorem vx_callV (X : Stand p l e R s m args below meth c T locs cells slots) (hexec : p.tables.exec = Jvm.exec) {own C : String} {index : Nat} {y : MethodName} {bytes : ByteArray} {maxL : Nat} {ret : Option FieldType}
    (hown : s.vm.findClass own = some m.cls) (hlink : (Cond.methodLink own index y).before args s = true) (hinst : (Cond.instanceMethod y).before args s = true) (hsel : (Cond.selects C y y).before args s = true)
    (hcode : (Cond.code y bytes maxL ret).before args s = true) (hy : y.cls ≠ "java/lang/invoke/MethodHandle" ∧ y.cls ≠ "java/lang/invoke/VarHandle")
    {W9 : Nat} {Pre : Pt → Array Value → Prop} {Post : Pt → Array Value → Option Value → Pt → Prop} {PostX : Pt → Array Value → Addr → Pt → Prop} (hK : vx_Back l R p e below s args y 3 W9 Pre Post PostX)
    {b : Addr} {cellB : Cell} (hcell : T.heap[b]? = some cellB) (hobj : cellB.vm.isStatics = false) (hcls : s.vm.findClass C = some cellB.cls)
    {g : JFrame} (hg : g.method = m) (hsize : g.locals.size = c.maxLocals) {argsL rest : List Value} (hlen : ∀ sig, parseMethodDescriptor y.desc = some sig → argsL.length = sig.parameters.length)
    (hstack : g.stack = argsL.reverse ++ .ref b :: rest) (hW : 2 * g.monitorRoom + (rest.map fun v => v.category).sum ≤ W9) (hdg : decode c.code g.pc = .ok (.invokevirtual index, 3))
    (hpre : ∀ vm₁, s.WarmedH vm₁ → Pre ⟨T.setVm vm₁, locs, cells, slots⟩ (Value.ref b :: argsL).toArray) :
    (∃ (v : Option Value) (vm₁ : Vm) (B : Pt), s.WarmedH vm₁ ∧ Stand p l e R s m args below meth c B.U B.locs B.cells B.slots ∧ Post ⟨T.setVm vm₁, locs, cells, slots⟩ (Value.ref b :: argsL).toArray v B ∧
      ∀ target, Steps p.tables e below (B.U.setTop { g with pc := g.pc + 3, stack := v.toList ++ rest }) target → Steps p.tables e below (T.setTop g) target) ∨
    (∃ (q : Addr) (vm₁ : Vm) (B : Pt), s.WarmedH vm₁ ∧ Stand p l e R s m args below meth c B.U B.locs B.cells B.slots ∧ PostX ⟨T.setVm vm₁, locs, cells, slots⟩ (Value.ref b :: argsL).toArray q B ∧
      Steps p.tables e below (T.setTop g) ((B.U.setTop { g with stack := rest }).pushFrame (.throwing q))) := by
  obtain ⟨mk, methM, hnamed, hmethM, hstM, habM⟩ := Cond.instanceMethod_spec hinst
  obtain ⟨methM', cM, hmethM', -, -, -, -, -, -, hsigM⟩ := Cond.code_spec hnamed hcode
  cases hmethM.symm.trans hmethM'
  obtain ⟨c2, r2, m2, q1, q2, q3, q4, kP, hkP, hkPi⟩ := Cond.selects_spec hsel
  cases hcls.symm.trans q1
  cases (State.methodFound?_of_named hnamed hy).symm.trans q2
  cases hnamed.symm.trans q3
  have hselP : selectMethod e.platform s.vm cellB.cls mk = .method mk := by rw [Launch.admits_selectMethod X.admits]; exact q4
  obtain ⟨vm₁, X₁, hstep₁⟩ := X.invokevirtual hexec hown hlink hnamed hmethM hstM hkP hkPi hy (a := b) (cell := cellB) hcell
    (fun z h => by rw [h] at hobj; cases hobj) hselP hmethM habM hkP hkPi (g := g) hg (argsL := argsL) (rest := rest) (hlen _ hsigM) hstack hdg
  rcases hK m meth c ⟨T.setVm vm₁, locs, cells, slots⟩ { g with stack := rest } (.invokevirtual index) mk (Value.ref b :: argsL).toArray X₁ hg hsize hdg hW (X₁.named hnamed) (hpre vm₁ X₁.warmed) with ⟨v, B, X', hpost, hsteps⟩ | ⟨q, B, X', hpost, hsteps⟩
  · exact Or.inl ⟨v, vm₁, B, X₁.warmed, X', hpost, fun target h => hstep₁ _ fun acts => by rw [doInvoke_state]; exact hsteps.trans h⟩
  · exact Or.inr ⟨q, vm₁, B, X₁.warmed, X', hpost, hstep₁ _ fun acts => by rw [doInvoke_state]; exact hsteps⟩
theorem vx_callS (X : Stand p l e R s m args below meth c T locs cells slots) (hexec : p.tables.exec = Jvm.exec) {own : String} {index : Nat} {y : MethodName} {bytes : ByteArray} {maxL : Nat} {ret : Option FieldType}
    (hown : s.vm.findClass own = some m.cls) (hlink : (Cond.methodLink own index y).before args s = true) (hstat : (Cond.static y).before args s = true) (hinit : (Cond.initialized y.cls).before args s = true)
    (hcode : (Cond.code y bytes maxL ret).before args s = true) (hy : y.cls ≠ "java/lang/invoke/MethodHandle" ∧ y.cls ≠ "java/lang/invoke/VarHandle")
    {W9 : Nat} {Pre : Pt → Array Value → Prop} {Post : Pt → Array Value → Option Value → Pt → Prop} {PostX : Pt → Array Value → Addr → Pt → Prop} (hK : vx_Back l R p e below s args y 3 W9 Pre Post PostX)
    {g : JFrame} (hg : g.method = m) (hsize : g.locals.size = c.maxLocals) {argsL rest : List Value} (hlen : ∀ sig, parseMethodDescriptor y.desc = some sig → argsL.length = sig.parameters.length)
    (hstack : g.stack = argsL.reverse ++ rest) (hW : 2 * g.monitorRoom + (rest.map fun v => v.category).sum ≤ W9) (hdg : decode c.code g.pc = .ok (.invokestatic index, 3))
    (hpre : ∀ vm₁, s.WarmedH vm₁ → Pre ⟨T.setVm vm₁, locs, cells, slots⟩ argsL.toArray) :
    (∃ (v : Option Value) (vm₁ : Vm) (B : Pt), s.WarmedH vm₁ ∧ Stand p l e R s m args below meth c B.U B.locs B.cells B.slots ∧ Post ⟨T.setVm vm₁, locs, cells, slots⟩ argsL.toArray v B ∧
      ∀ target, Steps p.tables e below (B.U.setTop { g with pc := g.pc + 3, stack := v.toList ++ rest }) target → Steps p.tables e below (T.setTop g) target) ∨
    (∃ (q : Addr) (vm₁ : Vm) (B : Pt), s.WarmedH vm₁ ∧ Stand p l e R s m args below meth c B.U B.locs B.cells B.slots ∧ PostX ⟨T.setVm vm₁, locs, cells, slots⟩ argsL.toArray q B ∧
      Steps p.tables e below (T.setTop g) ((B.U.setTop { g with stack := rest }).pushFrame (.throwing q))) := by
  obtain ⟨mk, hnamed⟩ := Cond.code_named hcode
  obtain ⟨methM, cM, hmethM, -, -, -, -, -, -, hsigM⟩ := Cond.code_spec hnamed hcode
  have hstatic : methM.isStatic = true := Cond.static_spec hnamed hmethM hstat
  obtain ⟨kP, hkP, -⟩ := className_of_methodNamed hnamed
  have hinitP : kP.init = .initialized := Cond.initialized_spec (findClass_of_methodNamed hnamed) hkP hinit
  obtain ⟨vm₁, X₁, hstep₁⟩ := X.invokestatic hexec hown hlink hnamed hmethM hstatic hkP hinitP hy (g := g) hg (argsL := argsL) (rest := rest) (hlen _ hsigM) hstack hdg
  rcases hK m meth c ⟨T.setVm vm₁, locs, cells, slots⟩ { g with stack := rest } (.invokestatic index) mk argsL.toArray X₁ hg hsize hdg hW (X₁.named hnamed) (hpre vm₁ X₁.warmed) with ⟨v, B, X', hpost, hsteps⟩ | ⟨q, B, X', hpost, hsteps⟩
  · exact Or.inl ⟨v, vm₁, B, X₁.warmed, X', hpost, fun target h => hstep₁ _ fun acts => by rw [doInvoke_state]; exact hsteps.trans h⟩
  · exact Or.inr ⟨q, vm₁, B, X₁.warmed, X', hpost, hstep₁ _ fun acts => by rw [doInvoke_state]; exact hsteps⟩
end Calls
theorem vx_cls {s : State} {T : State} {vm₁ : Vm} {E : String} {k : ClassId} (hW : s.WarmedH vm₁) (h : (T.setVm vm₁).vm.findClass E = some k) : s.vm.findClass E = some k := by
  have h1 : vm₁.findClass E = some k := h
  rw [hW.alike.findClass] at h1
  exact h1
/-- the method's frame g, with q thrown over it -/
def vx_W (p : Program) (l : Launch) (e : Env) (R : Room) (s : State) (m : MethodId) (args : Array Value) (below : List Frame) (meth : Method) (c : Code) (H : Heap) (locs : List Loc) (cells slots : Nat) (Q : State → Prop) (g : JFrame) (q : Addr) : Prop :=
  ∀ T : State, T.heap = H → Stand p l e R s m args below meth c T locs cells slots → ∃ t, Steps p.tables e below ((T.setTop g).pushFrame (.throwing q)) t ∧ Q t
def vx_Run (p : Program) (l : Launch) (e : Env) (R : Room) (s : State) (m : MethodId) (args : Array Value) (below : List Frame) (meth : Method) (c : Code) (H : Heap) (locs : List Loc) (cells slots mc ms : Nat) (g : JFrame) (rest : List Value) (Qa : State → Outcome → State → Prop) (XC : String → State → State → Prop) (free : Addr → Prop) : Prop :=
  ∀ T : State, T.heap = H → Stand p l e R s m args below meth c T locs cells slots →
    (∃ (v : Option Value) (st₀ t T' : State) (L : List Loc), st₀.heap = H ∧ Stand p l e R s m args below meth c T' (locs ++ L) (cells + mc) (slots + ms) ∧ (∀ q ∈ L, free q.base) ∧ T'.heap = t.heap ∧ T'.vm = t.vm ∧ Qa st₀ (.returned v) t ∧
      Goes p e below T g T' { g with pc := g.pc + 3, stack := v.toList ++ rest }) ∨
    (∃ (q : Addr) (st₀ t T' : State) (L : List Loc) (E : String) (ce : Cell), st₀.heap = H ∧ Stand p l e R s m args below meth c T' (locs ++ L) (cells + mc) (slots + ms) ∧ (∀ z ∈ L, free z.base) ∧ T'.heap = t.heap ∧ T'.vm = t.vm ∧ XC E st₀ t ∧ t.heap[q]? = some ce ∧ ce.vm = .none ∧ s.vm.findClass E = some ce.cls ∧
      Steps p.tables e below (T.setTop g) ((T'.setTop { g with stack := rest }).pushFrame (.throwing q)))
def vx_X {S : Type} (px : S → Prop) (B : String → S → State → Prop) (A : Nat → Prop) : String → State → State → Prop := fun E st t => ∃ u : S, px u ∧ B E u t ∧ va_F A st t
section Runs
variable {p : Program} {l : Launch} {e : Env} {R : Room} {s : State} {m : MethodId} {args : Array Value} {below : List Frame} {meth : Method} {c : Code} {H : Heap} {locs : List Loc} {cells slots : Nat}
variable {y : MethodName} {bytes cc : ByteArray} {maxL nL mc ms n index : Nat} {ret : Option FieldType} {ws : List Cond} {rm : Room} {Pc : Array Value → State → Prop} {Qc : Array Value → State → Outcome → State → Prop} {XC : String → State → State → Prop} {free : Addr → Prop} {Ts : List Cond} {own C : String} {b : Addr} {As rest : List Value} {g : JFrame}
theorem vx_callBack (cb : CallB R s args own index y bytes maxL ret ws rm mc ms n) (hM : vx_Met l y ws rm Pc Qc XC mc ms free) (hbl : FrameBlind Pc) : vx_Back l R p e below s args y 3 8 (PreOf R mc ms Pc) (PostOf Qc mc ms free) (vx_Post XC mc ms free) := by
  obtain ⟨hrc, hrs, hfr, hlo, hws, hcw, -, hini, -⟩ := cb
  exact vx_back (bytes := bytes) (maxL := maxL) (ret := ret) hM hbl hrc hrs hfr hlo hws hcw (fun a' U hW => word_at hW (Or.inl (by first | rfl | simp [Cond.onTables, Cond.keeps, Cond.steady])) hini)
theorem vx_runV (S : CallFix p m c cc nL s args Ts own) (hM : vx_Met l y ws rm Pc Qc XC mc ms free) (cw : CallW R s args own C index y bytes maxL ret ws rm mc ms n) (hp : PreV s H C b Pc As)
    (hg : g.method = m) (hn : As.length = n) (hsize : g.locals.size = nL) (hstack : g.stack = As.reverse ++ .ref b :: rest) (hW : 2 * g.monitorRoom + (rest.map fun v => v.category).sum ≤ 8) (hdg : decode cc g.pc = .ok (.invokevirtual index, 3)) (hf : cells + mc ≤ R.cells ∧ slots + ms ≤ R.slots) :
    vx_Run p l e R s m args below meth c H locs cells slots mc ms g rest (Qc (Value.ref b :: As).toArray) XC free := by
  have hK : vx_Back l R p e below s args y 3 8 (PreOf R mc ms Pc) (PostOf Qc mc ms free) (vx_Post XC mc ms free) := vx_callBack cw.1 hM hp.1
  obtain ⟨⟨-, -, -, -, -, -, hcode, -, hy, hlen, hl⟩, hin, hse⟩ := cw
  obtain ⟨hx, hb, hml, ho, -⟩ := S
  obtain ⟨-, ⟨cellB, hcB, hoB, hclB⟩, hPc⟩ := hp
  intro T hT X
  rcases vx_callV X hx (C := C) (bytes := bytes) (maxL := maxL) (ret := ret) ho hl hin hse hcode hy hK (by rw [hT]; exact hcB) hoB hclB hg (hsize.trans hml.symm) (argsL := As) (rest := rest) (fun sig h => hn.trans (hlen sig h)) hstack hW (by rw [hb]; exact hdg)
    (fun vm₁ hW₁ => ⟨hf.1, hf.2, hPc (T.setVm vm₁) hT hW₁⟩) with ⟨v, vm₁, ⟨U', l2, c2, s2⟩, hW₁, X', ⟨g', mk, t, L, e1, e2, hq, h1, hL, h2, h3⟩, st⟩ | ⟨q, vm₁, ⟨U', l2, c2, s2⟩, hW₁, X', ⟨g', mk, t, L, E, ce, e1, e2, hq, hce, hcv, hcl, h1, hL, h2, h3⟩, st⟩
  · dsimp only [Pt.U, Pt.locs, Pt.cells, Pt.slots] at X' e1 e2 h1 h2 h3 st
    subst h1; subst h2; subst h3
    exact Or.inl ⟨v, (T.setVm vm₁).calling g' mk (Value.ref b :: As).toArray, t, U', L, hT, X', hL, e1, e2, hq, st⟩
  · dsimp only [Pt.U, Pt.locs, Pt.cells, Pt.slots] at X' e1 e2 h1 h2 h3 st hcl
    subst h1; subst h2; subst h3
    exact Or.inr ⟨q, (T.setVm vm₁).calling g' mk (Value.ref b :: As).toArray, t, U', L, E, ce, hT, X', hL, e1, e2, hq, hce, hcv, vx_cls hW₁ hcl, st⟩
theorem vx_runS (S : CallFix p m c cc nL s args Ts own) (hM : vx_Met l y ws rm Pc Qc XC mc ms free) (cw : CallB R s args own index y bytes maxL ret ws rm mc ms n ∧ (Cond.static y).before args s = true) (hp : PreS s H Pc As)
    (hg : g.method = m) (hn : As.length = n) (hsize : g.locals.size = nL) (hstack : g.stack = As.reverse ++ rest) (hW : 2 * g.monitorRoom + (rest.map fun v => v.category).sum ≤ 8) (hdg : decode cc g.pc = .ok (.invokestatic index, 3)) (hf : cells + mc ≤ R.cells ∧ slots + ms ≤ R.slots) :
    vx_Run p l e R s m args below meth c H locs cells slots mc ms g rest (Qc As.toArray) XC free := by
  have hK : vx_Back l R p e below s args y 3 8 (PreOf R mc ms Pc) (PostOf Qc mc ms free) (vx_Post XC mc ms free) := vx_callBack cw.1 hM hp.1
  obtain ⟨⟨-, -, -, -, -, -, hcode, hini, hy, hlen, hl⟩, hstt⟩ := cw
  obtain ⟨hx, hb, hml, ho, -⟩ := S
  intro T hT X
  rcases vx_callS X hx (bytes := bytes) (maxL := maxL) (ret := ret) ho hl hstt hini hcode hy hK hg (hsize.trans hml.symm) (argsL := As) (rest := rest) (fun sig h => hn.trans (hlen sig h)) hstack hW (by rw [hb]; exact hdg)
    (fun vm₁ hW₁ => ⟨hf.1, hf.2, hp.2 (T.setVm vm₁) hT hW₁⟩) with ⟨v, vm₁, ⟨U', l2, c2, s2⟩, hW₁, X', ⟨g', mk, t, L, e1, e2, hq, h1, hL, h2, h3⟩, st⟩ | ⟨q, vm₁, ⟨U', l2, c2, s2⟩, hW₁, X', ⟨g', mk, t, L, E, ce, e1, e2, hq, hce, hcv, hcl, h1, hL, h2, h3⟩, st⟩
  · dsimp only [Pt.U, Pt.locs, Pt.cells, Pt.slots] at X' e1 e2 h1 h2 h3 st
    subst h1; subst h2; subst h3
    exact Or.inl ⟨v, (T.setVm vm₁).calling g' mk As.toArray, t, U', L, hT, X', hL, e1, e2, hq, st⟩
  · dsimp only [Pt.U, Pt.locs, Pt.cells, Pt.slots] at X' e1 e2 h1 h2 h3 st hcl
    subst h1; subst h2; subst h3
    exact Or.inr ⟨q, (T.setVm vm₁).calling g' mk As.toArray, t, U', L, E, ce, hT, X', hL, e1, e2, hq, hce, hcv, vx_cls hW₁ hcl, st⟩
end Runs
section Rows
variable {p : Program} {l : Launch} {e : Env} {R : Room} {s : State} {m : MethodId} {args : Array Value} {below : List Frame} {meth : Method} {c : Code} {H : Heap} {locs : List Loc} {cells slots : Nat} {Q : State → Prop}
variable {mc ms : Nat} {free : Addr → Prop} {A0 A1 : Nat → Prop} {H0 : Heap} {a : Array Value} {pc : Nat} {ls : Array Slot} {st0 rest : List Value}
theorem vx_keep {st₀ t T' : State} {L : List Loc} (h0 : st₀.heap = H) (e1 : T'.heap = t.heap) (hS : va_S A0 H0 H locs) (hA : ∀ q, q < H.size → A1 q → A0 q) (hf : ∀ q, free q → A0 q) (hL : ∀ q ∈ L, free q.base) (hF : va_F A1 st₀ t) :
    H.size ≤ T'.heap.size ∧ (∀ q : Nat, q < H.size → ¬ A1 q → T'.heap[q]? = H[q]?) ∧ va_S A0 H0 T'.heap (locs ++ L) := by
  obtain ⟨hz, hk⟩ := hF
  rw [h0] at hz hk
  exact ⟨by rw [e1]; exact hz, fun q h1 h2 => by rw [e1]; exact hk q h1 h2,
    ⟨Nat.le_trans hS.1 (by rw [e1]; exact hz), fun q h1 h2 => by rw [e1, hk q (Nat.lt_of_lt_of_le h1 hS.1) (fun z => h2 (hA q (Nat.lt_of_lt_of_le h1 hS.1) z))]; exact hS.2.1 q h1 h2, fun q hq => by
      rcases List.mem_append.mp hq with h | h
      · exact hS.2.2 q h
      · exact hf _ (hL q h)⟩⟩
theorem vx_calli {S SX : Type} {post : Int32 → S → Prop} {px : SX → Prop} {B : S → State → Prop} {BX : String → SX → State → Prop} {AX : Nat → Prop} (hr : vx_Run p l e R s m args below meth c H locs cells slots mc ms (F0 m pc ls st0) rest (va_Qi post B A1 a) (vx_X px BX AX) free) (hS : va_S A0 H0 H locs) (hA : ∀ q, q < H.size → A1 q → A0 q) (hf : ∀ q, free q → A0 q) (hAX : ∀ q, q < H.size → AX q → A0 q)
    (kx : ∀ (E : String) (ce : Cell) (q9 : Addr) (u : SX) (t : State) (H1 : Heap) (locs1 : List Loc), t.heap = H1 → s.vm.Alike t.vm → px u → BX E u t → H.size ≤ H1.size → (∀ q : Nat, q < H.size → ¬ AX q → H1[q]? = H[q]?) → va_S A0 H0 H1 locs1 → H1[q9]? = some ce → ce.vm = .none → s.vm.findClass E = some ce.cls → vx_W p l e R s m args below meth c H1 locs1 (cells + mc) (slots + ms) Q (F0 m pc ls rest) q9)
    (kk : ∀ (r : Int32) (u : S) (t : State) (H1 : Heap) (locs1 : List Loc), t.heap = H1 → s.vm.Alike t.vm → post r u → B u t → H.size ≤ H1.size → (∀ q : Nat, q < H.size → ¬ A1 q → H1[q]? = H[q]?) → va_S A0 H0 H1 locs1 → W p l e R s m args below meth c H1 locs1 (cells + mc) (slots + ms) Q (F0 m (pc + 3) ls (.int r :: rest))) : W p l e R s m args below meth c H locs cells slots Q (F0 m pc ls st0) := by
  intro T hT X
  rcases hr T hT X with ⟨v, st₀, t, T', L, h0, X', hL, e1, e2, ⟨⟨r, u, hv, hp, hb⟩, hF⟩, st⟩ | ⟨q, st₀, t, T', L, E, ce, h0, X', hL, e1, e2, ⟨u, hp, hb, hF⟩, hce, hcv, hcl, st⟩
  · cases hv
    obtain ⟨k1, k2, k3⟩ := vx_keep h0 e1 hS hA hf hL hF
    obtain ⟨t2, a1, b1⟩ := kk r u t T'.heap (locs ++ L) e1.symm (by rw [← e2]; exact X'.warmed.alike) hp hb k1 k2 k3 T' rfl X'
    exact ⟨t2, st t2 a1, b1⟩
  · obtain ⟨k1, k2, k3⟩ := vx_keep h0 e1 hS hAX hf hL hF
    obtain ⟨t2, a1, b1⟩ := kx E ce q u t T'.heap (locs ++ L) e1.symm (by rw [← e2]; exact X'.warmed.alike) hp hb k1 k2 k3 (by rw [e1]; exact hce) hcv hcl T' rfl X'
    exact ⟨t2, st.trans a1, b1⟩
theorem vx_calll {S SX : Type} {post : Int64 → S → Prop} {px : SX → Prop} {B : S → State → Prop} {BX : String → SX → State → Prop} {AX : Nat → Prop} (hr : vx_Run p l e R s m args below meth c H locs cells slots mc ms (F0 m pc ls st0) rest (va_Ql post B A1 a) (vx_X px BX AX) free) (hS : va_S A0 H0 H locs) (hA : ∀ q, q < H.size → A1 q → A0 q) (hf : ∀ q, free q → A0 q) (hAX : ∀ q, q < H.size → AX q → A0 q)
    (kx : ∀ (E : String) (ce : Cell) (q9 : Addr) (u : SX) (t : State) (H1 : Heap) (locs1 : List Loc), t.heap = H1 → s.vm.Alike t.vm → px u → BX E u t → H.size ≤ H1.size → (∀ q : Nat, q < H.size → ¬ AX q → H1[q]? = H[q]?) → va_S A0 H0 H1 locs1 → H1[q9]? = some ce → ce.vm = .none → s.vm.findClass E = some ce.cls → vx_W p l e R s m args below meth c H1 locs1 (cells + mc) (slots + ms) Q (F0 m pc ls rest) q9)
    (kk : ∀ (r : Int64) (u : S) (t : State) (H1 : Heap) (locs1 : List Loc), t.heap = H1 → s.vm.Alike t.vm → post r u → B u t → H.size ≤ H1.size → (∀ q : Nat, q < H.size → ¬ A1 q → H1[q]? = H[q]?) → va_S A0 H0 H1 locs1 → W p l e R s m args below meth c H1 locs1 (cells + mc) (slots + ms) Q (F0 m (pc + 3) ls (.long r :: rest))) : W p l e R s m args below meth c H locs cells slots Q (F0 m pc ls st0) := by
  intro T hT X
  rcases hr T hT X with ⟨v, st₀, t, T', L, h0, X', hL, e1, e2, ⟨⟨r, u, hv, hp, hb⟩, hF⟩, st⟩ | ⟨q, st₀, t, T', L, E, ce, h0, X', hL, e1, e2, ⟨u, hp, hb, hF⟩, hce, hcv, hcl, st⟩
  · cases hv
    obtain ⟨k1, k2, k3⟩ := vx_keep h0 e1 hS hA hf hL hF
    obtain ⟨t2, a1, b1⟩ := kk r u t T'.heap (locs ++ L) e1.symm (by rw [← e2]; exact X'.warmed.alike) hp hb k1 k2 k3 T' rfl X'
    exact ⟨t2, st t2 a1, b1⟩
  · obtain ⟨k1, k2, k3⟩ := vx_keep h0 e1 hS hAX hf hL hF
    obtain ⟨t2, a1, b1⟩ := kx E ce q u t T'.heap (locs ++ L) e1.symm (by rw [← e2]; exact X'.warmed.alike) hp hb k1 k2 k3 (by rw [e1]; exact hce) hcv hcl T' rfl X'
    exact ⟨t2, st.trans a1, b1⟩
theorem vx_callf {S SX : Type} {post : UInt32 → S → Prop} {px : SX → Prop} {B : S → State → Prop} {BX : String → SX → State → Prop} {AX : Nat → Prop} (hr : vx_Run p l e R s m args below meth c H locs cells slots mc ms (F0 m pc ls st0) rest (va_Qf post B A1 a) (vx_X px BX AX) free) (hS : va_S A0 H0 H locs) (hA : ∀ q, q < H.size → A1 q → A0 q) (hf : ∀ q, free q → A0 q) (hAX : ∀ q, q < H.size → AX q → A0 q)
    (kx : ∀ (E : String) (ce : Cell) (q9 : Addr) (u : SX) (t : State) (H1 : Heap) (locs1 : List Loc), t.heap = H1 → s.vm.Alike t.vm → px u → BX E u t → H.size ≤ H1.size → (∀ q : Nat, q < H.size → ¬ AX q → H1[q]? = H[q]?) → va_S A0 H0 H1 locs1 → H1[q9]? = some ce → ce.vm = .none → s.vm.findClass E = some ce.cls → vx_W p l e R s m args below meth c H1 locs1 (cells + mc) (slots + ms) Q (F0 m pc ls rest) q9)
    (kk : ∀ (r : UInt32) (u : S) (t : State) (H1 : Heap) (locs1 : List Loc), t.heap = H1 → s.vm.Alike t.vm → post r u → B u t → H.size ≤ H1.size → (∀ q : Nat, q < H.size → ¬ A1 q → H1[q]? = H[q]?) → va_S A0 H0 H1 locs1 → W p l e R s m args below meth c H1 locs1 (cells + mc) (slots + ms) Q (F0 m (pc + 3) ls (.float r :: rest))) : W p l e R s m args below meth c H locs cells slots Q (F0 m pc ls st0) := by
  intro T hT X
  rcases hr T hT X with ⟨v, st₀, t, T', L, h0, X', hL, e1, e2, ⟨⟨r, u, hv, hp, hb⟩, hF⟩, st⟩ | ⟨q, st₀, t, T', L, E, ce, h0, X', hL, e1, e2, ⟨u, hp, hb, hF⟩, hce, hcv, hcl, st⟩
  · cases hv
    obtain ⟨k1, k2, k3⟩ := vx_keep h0 e1 hS hA hf hL hF
    obtain ⟨t2, a1, b1⟩ := kk r u t T'.heap (locs ++ L) e1.symm (by rw [← e2]; exact X'.warmed.alike) hp hb k1 k2 k3 T' rfl X'
    exact ⟨t2, st t2 a1, b1⟩
  · obtain ⟨k1, k2, k3⟩ := vx_keep h0 e1 hS hAX hf hL hF
    obtain ⟨t2, a1, b1⟩ := kx E ce q u t T'.heap (locs ++ L) e1.symm (by rw [← e2]; exact X'.warmed.alike) hp hb k1 k2 k3 (by rw [e1]; exact hce) hcv hcl T' rfl X'
    exact ⟨t2, st.trans a1, b1⟩
theorem vx_calld {S SX : Type} {post : UInt64 → S → Prop} {px : SX → Prop} {B : S → State → Prop} {BX : String → SX → State → Prop} {AX : Nat → Prop} (hr : vx_Run p l e R s m args below meth c H locs cells slots mc ms (F0 m pc ls st0) rest (va_Qd post B A1 a) (vx_X px BX AX) free) (hS : va_S A0 H0 H locs) (hA : ∀ q, q < H.size → A1 q → A0 q) (hf : ∀ q, free q → A0 q) (hAX : ∀ q, q < H.size → AX q → A0 q)
    (kx : ∀ (E : String) (ce : Cell) (q9 : Addr) (u : SX) (t : State) (H1 : Heap) (locs1 : List Loc), t.heap = H1 → s.vm.Alike t.vm → px u → BX E u t → H.size ≤ H1.size → (∀ q : Nat, q < H.size → ¬ AX q → H1[q]? = H[q]?) → va_S A0 H0 H1 locs1 → H1[q9]? = some ce → ce.vm = .none → s.vm.findClass E = some ce.cls → vx_W p l e R s m args below meth c H1 locs1 (cells + mc) (slots + ms) Q (F0 m pc ls rest) q9)
    (kk : ∀ (r : UInt64) (u : S) (t : State) (H1 : Heap) (locs1 : List Loc), t.heap = H1 → s.vm.Alike t.vm → post r u → B u t → H.size ≤ H1.size → (∀ q : Nat, q < H.size → ¬ A1 q → H1[q]? = H[q]?) → va_S A0 H0 H1 locs1 → W p l e R s m args below meth c H1 locs1 (cells + mc) (slots + ms) Q (F0 m (pc + 3) ls (.double r :: rest))) : W p l e R s m args below meth c H locs cells slots Q (F0 m pc ls st0) := by
  intro T hT X
  rcases hr T hT X with ⟨v, st₀, t, T', L, h0, X', hL, e1, e2, ⟨⟨r, u, hv, hp, hb⟩, hF⟩, st⟩ | ⟨q, st₀, t, T', L, E, ce, h0, X', hL, e1, e2, ⟨u, hp, hb, hF⟩, hce, hcv, hcl, st⟩
  · cases hv
    obtain ⟨k1, k2, k3⟩ := vx_keep h0 e1 hS hA hf hL hF
    obtain ⟨t2, a1, b1⟩ := kk r u t T'.heap (locs ++ L) e1.symm (by rw [← e2]; exact X'.warmed.alike) hp hb k1 k2 k3 T' rfl X'
    exact ⟨t2, st t2 a1, b1⟩
  · obtain ⟨k1, k2, k3⟩ := vx_keep h0 e1 hS hAX hf hL hF
    obtain ⟨t2, a1, b1⟩ := kx E ce q u t T'.heap (locs ++ L) e1.symm (by rw [← e2]; exact X'.warmed.alike) hp hb k1 k2 k3 (by rw [e1]; exact hce) hcv hcl T' rfl X'
    exact ⟨t2, st.trans a1, b1⟩
theorem vx_callv {S SX : Type} {post : S → Prop} {px : SX → Prop} {B : S → State → Prop} {BX : String → SX → State → Prop} {AX : Nat → Prop} (hr : vx_Run p l e R s m args below meth c H locs cells slots mc ms (F0 m pc ls st0) rest (va_Qv post B A1 a) (vx_X px BX AX) free) (hS : va_S A0 H0 H locs) (hA : ∀ q, q < H.size → A1 q → A0 q) (hf : ∀ q, free q → A0 q) (hAX : ∀ q, q < H.size → AX q → A0 q)
    (kx : ∀ (E : String) (ce : Cell) (q9 : Addr) (u : SX) (t : State) (H1 : Heap) (locs1 : List Loc), t.heap = H1 → s.vm.Alike t.vm → px u → BX E u t → H.size ≤ H1.size → (∀ q : Nat, q < H.size → ¬ AX q → H1[q]? = H[q]?) → va_S A0 H0 H1 locs1 → H1[q9]? = some ce → ce.vm = .none → s.vm.findClass E = some ce.cls → vx_W p l e R s m args below meth c H1 locs1 (cells + mc) (slots + ms) Q (F0 m pc ls rest) q9)
    (kk : ∀ (u : S) (t : State) (H1 : Heap) (locs1 : List Loc), t.heap = H1 → s.vm.Alike t.vm → post u → B u t → H.size ≤ H1.size → (∀ q : Nat, q < H.size → ¬ A1 q → H1[q]? = H[q]?) → va_S A0 H0 H1 locs1 → W p l e R s m args below meth c H1 locs1 (cells + mc) (slots + ms) Q (F0 m (pc + 3) ls (rest))) : W p l e R s m args below meth c H locs cells slots Q (F0 m pc ls st0) := by
  intro T hT X
  rcases hr T hT X with ⟨v, st₀, t, T', L, h0, X', hL, e1, e2, ⟨⟨u, hv, hp, hb⟩, hF⟩, st⟩ | ⟨q, st₀, t, T', L, E, ce, h0, X', hL, e1, e2, ⟨u, hp, hb, hF⟩, hce, hcv, hcl, st⟩
  · cases hv
    obtain ⟨k1, k2, k3⟩ := vx_keep h0 e1 hS hA hf hL hF
    obtain ⟨t2, a1, b1⟩ := kk u t T'.heap (locs ++ L) e1.symm (by rw [← e2]; exact X'.warmed.alike) hp hb k1 k2 k3 T' rfl X'
    exact ⟨t2, st t2 a1, b1⟩
  · obtain ⟨k1, k2, k3⟩ := vx_keep h0 e1 hS hAX hf hL hF
    obtain ⟨t2, a1, b1⟩ := kx E ce q u t T'.heap (locs ++ L) e1.symm (by rw [← e2]; exact X'.warmed.alike) hp hb k1 k2 k3 (by rw [e1]; exact hce) hcv hcl T' rfl X'
    exact ⟨t2, st.trans a1, b1⟩
/-- caught by the row x of this method's table; the rows ahead don't take it -/
theorem vx_catch {own name : String} {E : String} {ce : Cell} {q : Addr} (hown : s.vm.findClass own = some m.cls) (pre : List ExceptionTableEntry) (x : ExceptionTableEntry) (suf : List ExceptionTableEntry) (hsplit : c.exceptionTable.toList = pre ++ x :: suf)
    (hpass : ∀ z ∈ pre, covers z pc = false ∨ (z.catchType ≠ 0 ∧ ∃ nm : String, (Cond.classLink own z.catchType nm).before args s = true ∧ va_Nc E nm s)) (hx : covers x pc = true) (h0 : x.catchType ≠ 0)
    (hlink : (Cond.classLink own x.catchType name).before args s = true) (hcast : (Cond.castable E name).before args s = true) (hcell : H[q]? = some ce) (hv : ce.vm = .none) (hcl : s.vm.findClass E = some ce.cls)
    (kk : W p l e R s m args below meth c H locs cells slots Q (F0 m x.handlerPc ls [.ref q])) : vx_W p l e R s m args below meth c H locs cells slots Q (F0 m pc ls rest) q := by
  intro T hT X
  have hpl : e.platform.magicAccessors = ({} : Platform).magicAccessors := by rw [X.admits.platform]
  obtain ⟨c3, c4, hc3, hc4, hasg⟩ := Cond.castable_spec hcast
  cases Option.some.inj (hc3.symm.trans hcl)
  obtain ⟨c5, hc5, hcl5⟩ := Cond.classLink_spec hown hlink e.platform hpl
  cases Option.some.inj (hc4.symm.trans hc5)
  obtain ⟨vm', X', st⟩ := X.thenCaughtThrough q (g := F0 m pc ls rest) rfl (Steps.refl _) (by rw [hT]; exact hcell) (by rw [hv]; rfl) (by obtain ⟨k9, h9, -⟩ := Vm.findClass_spec hcl; exact ⟨k9, h9⟩) pre x suf hsplit
    (fun z hz => by
      rcases hpass z hz with h | ⟨hz0, nm, hl1, hn1⟩
      · exact Or.inl h
      · obtain ⟨c6, hc6, hcl6⟩ := Cond.classLink_spec hown hl1 e.platform hpl
        obtain ⟨a8, b8, h1, h2, h3⟩ := hn1
        cases Option.some.inj (h1.symm.trans hcl)
        cases Option.some.inj (h2.symm.trans hc6)
        exact Or.inr ⟨hz0, _, hcl6, h3⟩) hx (Or.inr ⟨h0, c4, hcl5, hasg⟩)
  obtain ⟨t, a1, b1⟩ := kk (T.setVm vm') hT X'
  exact ⟨t, st.trans a1, b1⟩
end Rows
section Ends
variable {p : Program} {l : Launch} {e : Env} {R : Room} {s : State} {m : MethodId} {args : Array Value} {below : List Frame} {meth : Method} {c : Code} {H : Heap} {locs : List Loc} {cells slots : Nat} {Q : State → Prop}
variable {mc ms : Nat} {free : Addr → Prop} {A0 A1 : Nat → Prop} {H0 : Heap} {a : Array Value} {ls : Array Slot} {st0 rest : List Value}
variable {Qc : Array Value → State → Outcome → State → Prop} {XC : String → State → State → Prop}
/-- what a body that may throw owes at its end -/
def vx_MQ (below : List Frame) (Qc : Array Value → State → Outcome → State → Prop) (XC : String → State → State → Prop) (a : Array Value) (s : State) (mc ms : Nat) (free : Addr → Prop) : State → Prop := fun t =>
  ∃ o, t.status = .running ∧ Ended t below o ∧ vx_Q Qc XC mc ms free a s o t
theorem vx_ret {g : JFrame} {mc ms : Nat} (k : W p l e R s m args below meth c H locs cells slots (MQ below Qc args s mc ms free) g) : W p l e R s m args below meth c H locs cells slots (vx_MQ below Qc XC args s mc ms free) g := by
  intro T hT X
  obtain ⟨t, a1, o, b1, b2, b3, b4⟩ := k T hT X
  exact ⟨t, a1, o, b1, b2, Or.inl ⟨b3, b4⟩⟩
/-- not caught here: it goes on to the caller -/
theorem vx_widen {g : JFrame} {q : Addr} {k n : Nat} (h1 : cells ≤ k) (h2 : slots ≤ n) (kk : vx_W p l e R s m args below meth c H locs k n Q g q) : vx_W p l e R s m args below meth c H locs cells slots Q g q := fun T hT X => kk T hT (stand_widen X h1 h2)
theorem vx_out {pc : Nat} {E : String} {ce : Cell} {q : Addr} {mc ms : Nat} (hout : ∀ x ∈ c.exceptionTable.toList, covers x pc = false) (hlocks : meth.locks = false) (hcell : H[q]? = some ce) (hv : ce.vm = .none) (hcl : s.vm.findClass E = some ce.cls)
    (hx : ∀ t : State, t.heap = H → s.vm.Alike t.vm → XC E s t) (hf : ∀ z ∈ locs, free z.base) (hc : cells ≤ mc) (hs : slots ≤ ms) :
    vx_W p l e R s m args below meth c H locs cells slots (vx_MQ below Qc XC args s mc ms free) (F0 m pc ls rest) q := by
  intro T hT X
  obtain ⟨st1, hrun, hend, hW, hsm⟩ := X.leaveThrown q (g := F0 m pc ls rest) rfl rfl rfl hout hlocks
  have hcell9 : (T.setFrames (.throwing q :: below)).heap[q]? = some ce := by
    show T.heap[q]? = some ce
    rw [hT]; exact hcell
  exact ⟨_, st1, .threw q, hrun, hend, Or.inr ⟨q, rfl, E, ce, locs, hx _ hT hW.alike, hcell9, hv, hcl, hW, hsm.mono hc hs, hf⟩⟩
theorem vx_frame {U : State} {k n : Nat} (h : s.sameButNew ({ U with vm := s.vm } : State) locs k n) : s.heap.size ≤ U.heap.size ∧ ∀ q : Nat, q < s.heap.size → (∀ z ∈ locs, z.base ≠ q) → U.heap[q]? = s.heap[q]? := by
  obtain ⟨-, h2, -, -, -, h6⟩ := h
  refine ⟨h2, fun q hq hz => ?_⟩
  obtain ⟨c9, e1, e2, e3, e4⟩ := h6 q _ (Array.getElem?_eq_getElem hq)
  have hs : c9.slots = (s.heap[q]).slots := Array.ext_getElem? fun i => e4 i fun hm => hz _ hm rfl
  have h9 : c9 = s.heap[q] := by
    rw [hs] at e2
    exact e2
  have e5 : U.heap[q]? = some c9 := e1
  rw [e5, h9, Array.getElem?_eq_getElem hq]
/-- the words of a throw but the four that speak of the heap -/
def vx_no (w : Cond) : Bool := decide (w ≠ .isRef (.static Bundle.tN "UNASSIGNED_STACK" Bundle.steD)) && decide (w ≠ .isRef (.static Bundle.tN "SUPPRESSED_SENTINEL" Bundle.listD)) && decide (w ≠ .laysStatic Bundle.tN "UNASSIGNED_STACK" Bundle.steD) && decide (w ≠ .laysStatic Bundle.tN "SUPPRESSED_SENTINEL" Bundle.listD)
def vx_at0 (own : String) (ic : Nat) (X : String) (names : List String) : List Cond := (Bundle.ownAtoms0 own ic X names).filter vx_no
def vx_atS (own : String) (ic : Nat) (X : String) (names : List String) : List Cond := (Bundle.ownAtoms own ic X names).filter vx_no
/-- a word that the tables alone decide, or a good one -/
def vx_ot (w : Cond) : Bool := w.onTables || goodWord w
theorem vx_ot_at {args a' : Array Value} {s U : State} {w : Cond} (hW : s.WarmedH U.vm) (hvm : s.vm = U.vm) (hg : vx_ot w = true) (h : w.before args s = true) : w.before a' U = true := by
  simp only [vx_ot, Bool.or_eq_true] at hg
  rcases hg with hg | hg
  · exact va_tabs hg hvm h
  · exact word_at hW (good_of_word hg) h
/-- a list's words: the good ones out of the method's own list, the others by premises of their own -/
theorem vx_hat {args : Array Value} {s : State} {L B : List Cond} (h1 : ∀ w ∈ L.filter goodWord, w.before args s = true) (h2 : ∀ w ∈ L.filter (fun w => !goodWord w), w ∈ B) (h3 : ∀ w ∈ B, w.before args s = true) : ∀ w ∈ L, w.before args s = true := by
  intro w hw
  by_cases g : goodWord w = true
  · exact h1 w (List.mem_filter.mpr ⟨hw, g⟩)
  · refine h3 w (h2 w (List.mem_filter.mpr ⟨hw, ?_⟩))
    show (!goodWord w) = true
    cases hgw : goodWord w
    · rfl
    · exact absurd hgw g
theorem vx_c {args : Array Value} {s : State} {w : Cond} {B : List Cond} (h : w.before args s = true) (t : ∀ w ∈ B, w.before args s = true) : ∀ w' ∈ w :: B, w'.before args s = true := fun w' h' => (List.mem_cons.mp h').elim (fun e => by rw [e]; exact h) (t w')
theorem vx_n {args : Array Value} {s : State} : ∀ w ∈ ([] : List Cond), w.before args s = true := fun _ h => nomatch h
theorem vx_own {args : Array Value} {s : State} {L : List Cond} (h1 : ∀ w ∈ L.filter vx_no, w.before args s = true)
    (hU : (Cond.isRef (.static Bundle.tN "UNASSIGNED_STACK" Bundle.steD)).before args s = true) (hN : (Cond.isRef (.static Bundle.tN "SUPPRESSED_SENTINEL" Bundle.listD)).before args s = true)
    (lU : (Cond.laysStatic Bundle.tN "UNASSIGNED_STACK" Bundle.steD).before args s = true) (lN : (Cond.laysStatic Bundle.tN "SUPPRESSED_SENTINEL" Bundle.listD).before args s = true) : ∀ w ∈ L, w.before args s = true := by
  intro w hw
  by_cases e1 : w = .isRef (.static Bundle.tN "UNASSIGNED_STACK" Bundle.steD)
  · rw [e1]; exact hU
  · by_cases e2 : w = .isRef (.static Bundle.tN "SUPPRESSED_SENTINEL" Bundle.listD)
    · rw [e2]; exact hN
    · by_cases e3 : w = .laysStatic Bundle.tN "UNASSIGNED_STACK" Bundle.steD
      · rw [e3]; exact lU
      · by_cases e4 : w = .laysStatic Bundle.tN "SUPPRESSED_SENTINEL" Bundle.listD
        · rw [e4]; exact lN
        · exact h1 w (List.mem_filter.mpr ⟨hw, by unfold vx_no; rw [decide_eq_true e1, decide_eq_true e2, decide_eq_true e3, decide_eq_true e4]; rfl⟩)
/-- where a static field lies, its class's statics cell in H -/
def vx_L (C n d : String) (A : Nat → Prop) (U : State) (H : Heap) : Prop := ∃ (c : ClassId) (k : Class) (i : Nat) (f : Field) (a : Nat) (cell : Cell), U.vm.findClass C = some c ∧ U.fieldFound? C n d = some (c, k, i, f) ∧ f.isStatic = true ∧ k.statics = some a ∧ H[a]? = some cell ∧ cell.vm.isStatics = true ∧ cell.cls = c ∧ f.slot < cell.slots.size ∧ k.staticTypes[f.slot]? = some f.type ∧ ¬ A a
theorem vx_L.moved {C n d : String} {A : Nat → Prop} {u U : State} {H : Heap} (hvm : u.vm.Alike U.vm) (h : vx_L C n d A u H) : vx_L C n d A U H := by
  obtain ⟨c, k, i, f, a, cell, h1, h2, h3, h4, h5, h6, h7, h8, h9, h10⟩ := h
  obtain ⟨k', hi', he⟩ := State.fieldFound?_setVm hvm h2
  exact ⟨c, k', i, f, a, cell, by rw [hvm.findClass]; exact h1, hi', h3, by rw [he]; exact h4, h5, h6, h7, h8, by rw [he]; exact h9, h10⟩
theorem vx_L.kept {C n d : String} {A : Nat → Prop} {U : State} {H H1 : Heap} (h : vx_L C n d A U H) (hq : ∀ a : Nat, a < H.size → ¬ A a → H1[a]? = H[a]?) : vx_L C n d A U H1 := by
  obtain ⟨c, k, i, f, a, cell, h1, h2, h3, h4, h5, h6, h7, h8, h9, h10⟩ := h
  exact ⟨c, k, i, f, a, cell, h1, h2, h3, h4, by rw [hq a (Array.getElem?_eq_some_iff.mp h5).1 h10]; exact h5, h6, h7, h8, h9, h10⟩
theorem vx_L.narrow {C n d : String} {A B : Nat → Prop} {U : State} {H : Heap} (h : vx_L C n d A U H) (hAB : ∀ q, B q → A q) : vx_L C n d B U H := by
  obtain ⟨c, k, i, f, a, cell, h1, h2, h3, h4, h5, h6, h7, h8, h9, h10⟩ := h
  exact ⟨c, k, i, f, a, cell, h1, h2, h3, h4, h5, h6, h7, h8, h9, fun z => h10 (hAB _ z)⟩
theorem vx_L.word {C n d : String} {A : Nat → Prop} {s : State} {args : Array Value} (h : vx_L C n d A s s.heap) : (Cond.laysStatic C n d).before args s = true := by
  obtain ⟨c, k, i, f, a, cell, h1, h2, h3, h4, h5, h6, h7, h8, h9, -⟩ := h
  show (Cond.laysStatic C n d).holds args s none s [] = true
  exact Cond.laysStatic_of h1 h2 h3 h4 h5 h6 h7 h8 h9
/-- .. and what it holds: null or some reference -/
def vx_Zq (C n d : String) (A : Nat → Prop) (U : State) (H : Heap) : Prop := va_Zq C n d A U H ∧ vx_L C n d A U H
theorem vx_Zq.moved {C n d : String} {A : Nat → Prop} {u U : State} {H : Heap} (hvm : u.vm.Alike U.vm) (h : vx_Zq C n d A u H) : vx_Zq C n d A U H := ⟨va_Zq.moved hvm h.1, vx_L.moved hvm h.2⟩
theorem vx_Zq.kept {C n d : String} {A : Nat → Prop} {U : State} {H H1 : Heap} (h : vx_Zq C n d A U H) (hq : ∀ a : Nat, a < H.size → ¬ A a → H1[a]? = H[a]?) : vx_Zq C n d A U H1 := ⟨va_Zq.kept h.1 hq, vx_L.kept h.2 hq⟩
theorem vx_Zq.narrow {C n d : String} {A B : Nat → Prop} {U : State} {H : Heap} (h : vx_Zq C n d A U H) (hAB : ∀ q, B q → A q) : vx_Zq C n d B U H := ⟨va_Zq.narrow h.1 hAB, vx_L.narrow h.2 hAB⟩
theorem vx_Zqof {args : Array Value} {s : State} {C n d : String} {A : Nat → Prop} (hl : (Cond.laysStatic C n d).before args s = true) (hini : (Cond.initialized C).before args s = true) (h : (Cond.isRef (.static C n d)).before args s = true) (hA : ∀ a : Nat, a < s.heap.size → ¬ A a) : vx_Zq C n d A s s.heap := by
  refine ⟨va_Zqof hl hini h hA, ?_⟩
  obtain ⟨c, k, i, f, a, cell, h1, h2, h3, h4, h5, h6, h7, h8, h9⟩ := Cond.laysStatic_spec hl
  exact ⟨c, k, i, f, a, cell, h1, h2, h3, h4, h5, h6, h7, h8, h9, hA a (Array.getElem?_eq_some_iff.mp h5).1⟩
theorem vx_isRef {C n d : String} {v : Value} {A : Nat → Prop} {s : State} {args : Array Value} (h : va_Z C n d v A s s.heap) (hv : v.isRef = true) : (Cond.isRef (.static C n d)).before args s = true := by
  obtain ⟨cf, kf, fi, f, a, cell, h1, h2, h3, h4, h5, h6, h7, -⟩ := h
  have he : (Term.static C n d).eval args s none [] s = some v := by
    simp [Term.eval, State.fieldNamed?, h1, h2, h4, h5, h6, h7]
  simp only [Cond.before, Cond.holds, Cond.value, he]
  cases v <;> simp_all [Value.isRef]
theorem vx_isRefq {C n d : String} {A : Nat → Prop} {s : State} {args : Array Value} (h : va_Zq C n d A s s.heap) : (Cond.isRef (.static C n d)).before args s = true := by
  rcases h with h | ⟨t, h⟩
  · exact vx_isRef h rfl
  · exact vx_isRef h rfl
/-- the same frame, seen from here: as if the method were called anew in this heap -/
theorem vx_rebase {T : State} (X : Stand p l e R s m args below meth c T locs cells slots) {R' : Room} (hf : R'.frames ≤ R.frames) (hl : R'.locals ≤ R.locals) (hc : cells + R'.cells ≤ R.cells) (hs : slots + R'.slots ≤ R.slots) :
    Stand p l e R' ((T.setVm s.vm).setFrames (.invoking m args :: below)) m args below meth c T [] 0 0 := by
  have htop : (T.setVm s.vm).topJava?.isSome := X.here.top
  have hF : ((T.setVm s.vm).setFrames (.invoking m args :: below)).frames = .invoking m args :: below := State.frames_setFrames _ (State.cur_lt_of_top htop)
  obtain ⟨g₀, hg0⟩ := Option.isSome_iff_exists.mp htop
  obtain ⟨r, hr⟩ := State.topJava?_eq_some.mp hg0
  have hl9 : e.platform.stackLimits (T.setVm s.vm).me = e.platform.stackLimits s.me := X.limits
  have hb9 : (T.setVm s.vm).me.stackBytes = s.me.stackBytes := X.bytes
  refine ⟨X.admits, X.cas, X.clock, hF, ?_, X.hears, X.method, X.code, X.here, X.tail, X.warmed, ?_, ?_, ?_⟩
  · have h := X.room
    have hU : ((T.setVm s.vm).setFrames (.invoking m args :: below)).localsInUse = s.localsInUse := by
      rw [State.localsInUse_invoking hF (meth := meth) (c := c) X.method X.code, State.localsInUse_invoking X.frames X.method X.code]
    simp only [State.hasRoom, Bool.and_eq_true, decide_eq_true_eq] at h ⊢
    obtain ⟨⟨⟨⟨h1, h2, h3, h4, h5, h6⟩, h7⟩, h8⟩, h9⟩ := h
    rw [X.frames, List.length_cons] at h2 h3
    have q1 := X.heapSize
    have q2 := X.used
    simp only [hF, hU, List.length_cons, State.stackLimits_setFrames, State.stackBytes_setFrames, hl9, hb9]
    refine ⟨⟨⟨⟨by omega, by omega, by omega, by omega, by omega, h6⟩, ?_⟩, ?_⟩, X.book⟩
    · show T.heap.size + R'.cells ≤ e.platform.maxCells
      omega
    · show T.slotsUsed + R'.slots ≤ e.platform.maxSlots
      omega
  · rw [State.stackLimits_setFrames]; rfl
  · rw [State.stackBytes_setFrames]; rfl
  · refine ⟨?_, Nat.le_refl _, Nat.le_refl _, ?_, ?_, fun a c9 h9 => ⟨c9, h9, rfl, rfl, fun _ _ => rfl⟩⟩
    · obtain ⟨t, ht, -⟩ := State.frames_cons hr
      show T.setVm s.vm = { ((T.setVm s.vm).setFrames (.invoking m args :: below)).setFrames (T.setVm s.vm).frames with heap := T.heap, slotsUsed := T.slotsUsed }
      rw [State.setFrames_setFrames, State.setFrames_self ht]
      rfl
    · show T.slotsUsed = T.slotsUsed + ((T.heap.toList.drop T.heap.size).map (·.slots.size)).sum
      rw [List.drop_eq_nil_of_le (Nat.le_of_eq Array.length_toList)]
      rfl
    · show ((T.heap.toList.drop T.heap.size).map (·.slots.size)).sum ≤ 0
      rw [List.drop_eq_nil_of_le (Nat.le_of_eq Array.length_toList)]
      exact Nat.le_refl _
/-- 'throw new E()': new; dup; invokespecial; athrow -/
theorem vx_throw0 {cc : ByteArray} {pc : Nat} (hexec : p.tables.exec = Jvm.exec) (hb : c.code = cc) (hl : l.stackTraces = false) {own cls : String} {names : List String} {ik ic mc ms : Nat} {A : Nat → Prop}
    (hown : s.vm.findClass own = some m.cls) (hcls : Bundle.fit cls = true) (hnames : ∀ n ∈ names, Bundle.fit n = true)
    (hk : (Cond.classLink own ik cls).before args s = true) (hini : (Cond.initialized cls).before args s = true) (hat : ∀ w ∈ vx_at0 own ic cls names, w.before args s = true)
    (hgood : ∀ w ∈ Cond.classLink own ik cls :: Cond.initialized cls :: vx_at0 own ic cls names, vx_ot w = true)
    (hU : vx_Zq Bundle.tN "UNASSIGNED_STACK" Bundle.steD A s s.heap) (hN : vx_Zq Bundle.tN "SUPPRESSED_SENTINEL" Bundle.listD A s s.heap) (hS : va_S A s.heap H locs) (hsize : ls.size = c.maxLocals)
    (d0 : decode cc pc = .ok (.new ik, 3)) (d3 : decode cc (pc + 3) = .ok (.dup, 1)) (d4 : decode cc (pc + 4) = .ok (.invokespecial ic, 3)) (d7 : decode cc (pc + 7) = .ok (.athrow, 1))
    (hout : ∀ x ∈ c.exceptionTable.toList, covers x (pc + 7) = false)
    (hRframes : names.length + 3 < R.frames) (hRlocals : (rest.map fun v => v.category).sum + (13 * (names.length + 1) + 42) ≤ R.locals) (hRcells : cells + 1 ≤ R.cells) (hRslots : slots + 6 ≤ R.slots) (hlocks : meth.locks = false)
    (hx : ∀ t : State, s.vm.Alike t.vm → H.size ≤ t.heap.size → (∀ q : Nat, q < H.size → t.heap[q]? = H[q]?) → XC cls s t)
    (hf : ∀ z ∈ locs, free z.base) (hc : cells + 1 ≤ mc) (hs : slots + 6 ≤ ms) :
    W p l e R s m args below meth c H locs cells slots (vx_MQ below Qc XC args s mc ms free) (F0 m pc ls rest) := by
  intro T hT X
  have htr : e.platform.stackTraces = false := (show e.platform.stackTraces = l.stackTraces by rw [X.admits.platform]).trans hl
  have Y := vx_rebase X (R' := { frames := R.frames, locals := R.locals, cells := 1, slots := 6 }) (Nat.le_refl _) (Nat.le_refl _) hRcells hRslots
  obtain ⟨s', hA⟩ : ∃ z, z = (T.setVm s.vm).setFrames (.invoking m args :: below) := ⟨_, rfl⟩
  rw [← hA] at Y
  have hvm : s'.vm = s.vm := by rw [hA]; rfl
  have hhp : s'.heap = H := by rw [hA]; exact hT
  have hW0 : s.WarmedH s'.vm := by rw [hvm]; exact State.WarmedH.refl s
  have hat' : ∀ w ∈ vx_at0 own ic cls names, w.before args s' = true := fun w hw => vx_ot_at hW0 hvm.symm (hgood w (List.mem_cons_of_mem _ (List.mem_cons_of_mem _ hw))) (hat w hw)
  have hk' : (Cond.classLink own ik cls).before args s' = true := vx_ot_at hW0 hvm.symm (hgood _ List.mem_cons_self) hk
  have hini' : (Cond.initialized cls).before args s' = true := vx_ot_at hW0 hvm.symm (hgood _ (List.mem_cons_of_mem _ List.mem_cons_self)) hini
  have hU' : vx_Zq Bundle.tN "UNASSIGNED_STACK" Bundle.steD A s' s'.heap := by rw [hhp]; exact vx_Zq.moved hW0.alike (hU.kept hS.2.1)
  have hN' : vx_Zq Bundle.tN "SUPPRESSED_SENTINEL" Bundle.listD A s' s'.heap := by rw [hhp]; exact vx_Zq.moved hW0.alike (hN.kept hS.2.1)
  have h : ∀ w ∈ Bundle.ownAtoms0 own ic cls names, w.before args s' = true := vx_own hat' (vx_isRefq hU'.1) (vx_isRefq hN'.1) hU'.2.word hN'.2.word
  have hown' : s'.vm.findClass own = some m.cls := by rw [hvm]; exact hown
  have hins : (Cond.instantiable cls 6).before args s' = true := h _ (by simp [Bundle.ownAtoms0])
  obtain ⟨vm₁, cX, kX, hfX, hkX, -, -, X₁, st1⟩ := Y.newCold hexec (own := own) (C := cls) (index := ik) (n := 6) hown' hk' hins hini'
    (g := F0 m pc ls rest) rfl (by rw [hb]; exact d0) (Nat.le_refl _) (Nat.le_refl _)
  generalize hT1 : (T.setVm vm₁).pushCell { cls := cX, slots := kX.instanceTypes.map defaultValue, vm := .none } = T1 at X₁ st1
  have hcat : (Value.ref T.heap.size).category = 1 := rfl
  have hcellA : T1.heap[T.heap.size]? = some (freshCell cX kX) := by rw [← hT1]; exact State.heap_pushCell_size _ _
  have d3' : decode c.code (pc + 3) = .ok (.dup, 1) := by rw [hb]; exact d3
  obtain ⟨U, hsteps, hrun, hend, hW, hsame, ce, hce, hO⟩ := X₁.ctorThrow0 hexec htr (own := own) (cls := cls) (names := names) (ic := ic) hown' hcls hnames h (fun x hx => nomatch hx) hfX hkX hcellA (by rw [hhp, hT]; exact Nat.le_refl _)
    (g := { method := m, pc := pc + 4, locals := ls, stack := .ref T.heap.size :: .ref T.heap.size :: rest, locked := none }) rfl hsize rfl rfl (rest := rest) rfl
    (by rw [hb]; exact d4) (by rw [hb]; exact d7) hout hRframes (by simp only [List.map_cons, List.sum_cons, hcat]; omega) hlocks
  obtain ⟨f1, f2⟩ := vx_frame hsame
  rw [hhp] at f1 f2
  have hWs : s.WarmedH U.vm := State.WarmedH.trans hW0 hW
  have hcl : s.vm.findClass cls = some ce.cls := by
    have h9 := hO.cls
    rw [hvm] at h9
    exact h9
  have hall : s.sameButNew ({ U with vm := s.vm } : State) locs mc ms := by
    subst hA
    obtain ⟨e1, e2⟩ := hsame
    rw [State.setFrames_setFrames] at e1
    have h2 : (T.setVm s.vm).sameButNew ({ U with vm := s.vm } : State) [] (0 + 1) (0 + 6) := ⟨e1, e2⟩
    have h3 := X.same.trans h2
    rw [List.append_nil] at h3
    exact h3.mono hc hs
  refine ⟨U, ?_, .threw T.heap.size, hrun, hend, Or.inr ⟨T.heap.size, rfl, cls, ce, locs, hx U hWs.alike f1 (fun q hq => f2 q hq (fun z hz => nomatch hz)), hce, hO.vm, hcl, hWs, hall, hf⟩⟩
  refine st1 _ ?_
  show Steps p.tables e below (T1.setTop { method := m, pc := pc + 3, locals := ls, stack := .ref T.heap.size :: rest, locked := none }) _
  jvm_step X₁.here [X₁.here.top, hexec, d3', Value.category]
  exact hsteps
/-- 'throw new E("text")': new; dup; ldc; invokespecial; athrow -/
theorem vx_throwS {cc : ByteArray} {pc : Nat} (hexec : p.tables.exec = Jvm.exec) (hb : c.code = cc) (hl : l.stackTraces = false) {own cls text : String} {names : List String} {ik is ic mc ms sa : Nat} {A : Nat → Prop}
    (hown : s.vm.findClass own = some m.cls) (hcls : Bundle.fit cls = true) (hnames : ∀ n ∈ names, Bundle.fit n = true)
    (hk : (Cond.classLink own ik cls).before args s = true) (hini : (Cond.initialized cls).before args s = true) (hstr : vk_R own is text sa s) (hat : ∀ w ∈ vx_atS own ic cls names, w.before args s = true)
    (hgood : ∀ w ∈ Cond.classLink own ik cls :: Cond.initialized cls :: vx_atS own ic cls names, vx_ot w = true)
    (hU : vx_Zq Bundle.tN "UNASSIGNED_STACK" Bundle.steD A s s.heap) (hN : vx_Zq Bundle.tN "SUPPRESSED_SENTINEL" Bundle.listD A s s.heap) (hS : va_S A s.heap H locs) (hsize : ls.size = c.maxLocals)
    (d0 : decode cc pc = .ok (.new ik, 3)) (d3 : decode cc (pc + 3) = .ok (.dup, 1)) (d4 : decode cc (pc + 4) = .ok (.ldc is, 2)) (d6 : decode cc (pc + 6) = .ok (.invokespecial ic, 3)) (d9 : decode cc (pc + 9) = .ok (.athrow, 1))
    (hout : ∀ x ∈ c.exceptionTable.toList, covers x (pc + 9) = false)
    (hRframes : names.length + 3 < R.frames) (hRlocals : (rest.map fun v => v.category).sum + (13 * (names.length + 1) + 43) ≤ R.locals) (hRcells : cells + 1 ≤ R.cells) (hRslots : slots + 6 ≤ R.slots) (hlocks : meth.locks = false)
    (hx : ∀ t : State, s.vm.Alike t.vm → H.size ≤ t.heap.size → (∀ q : Nat, q < H.size → t.heap[q]? = H[q]?) → XC cls s t)
    (hf : ∀ z ∈ locs, free z.base) (hc : cells + 1 ≤ mc) (hs : slots + 6 ≤ ms) :
    W p l e R s m args below meth c H locs cells slots (vx_MQ below Qc XC args s mc ms free) (F0 m pc ls rest) := by
  intro T hT X
  have htr : e.platform.stackTraces = false := (show e.platform.stackTraces = l.stackTraces by rw [X.admits.platform]).trans hl
  have Y := vx_rebase X (R' := { frames := R.frames, locals := R.locals, cells := 1, slots := 6 }) (Nat.le_refl _) (Nat.le_refl _) hRcells hRslots
  obtain ⟨s', hA⟩ : ∃ z, z = (T.setVm s.vm).setFrames (.invoking m args :: below) := ⟨_, rfl⟩
  rw [← hA] at Y
  have hvm : s'.vm = s.vm := by rw [hA]; rfl
  have hhp : s'.heap = H := by rw [hA]; exact hT
  have hW0 : s.WarmedH s'.vm := by rw [hvm]; exact State.WarmedH.refl s
  have hat' : ∀ w ∈ vx_atS own ic cls names, w.before args s' = true := fun w hw => vx_ot_at hW0 hvm.symm (hgood w (List.mem_cons_of_mem _ (List.mem_cons_of_mem _ hw))) (hat w hw)
  have hk' : (Cond.classLink own ik cls).before args s' = true := vx_ot_at hW0 hvm.symm (hgood _ List.mem_cons_self) hk
  have hini' : (Cond.initialized cls).before args s' = true := vx_ot_at hW0 hvm.symm (hgood _ (List.mem_cons_of_mem _ List.mem_cons_self)) hini
  have hU' : vx_Zq Bundle.tN "UNASSIGNED_STACK" Bundle.steD A s' s'.heap := by rw [hhp]; exact vx_Zq.moved hW0.alike (hU.kept hS.2.1)
  have hN' : vx_Zq Bundle.tN "SUPPRESSED_SENTINEL" Bundle.listD A s' s'.heap := by rw [hhp]; exact vx_Zq.moved hW0.alike (hN.kept hS.2.1)
  have h : ∀ w ∈ Bundle.ownAtoms own ic cls names, w.before args s' = true := vx_own hat' (vx_isRefq hU'.1) (vx_isRefq hN'.1) hU'.2.word hN'.2.word
  have hown' : s'.vm.findClass own = some m.cls := by rw [hvm]; exact hown
  have hins : (Cond.instantiable cls 6).before args s' = true := h _ (by simp [Bundle.ownAtoms])
  obtain ⟨vm₁, cX, kX, hfX, hkX, -, -, X₁, st1⟩ := Y.newCold hexec (own := own) (C := cls) (index := ik) (n := 6) hown' hk' hins hini'
    (g := F0 m pc ls rest) rfl (by rw [hb]; exact d0) (Nat.le_refl _) (Nat.le_refl _)
  generalize hT1 : (T.setVm vm₁).pushCell { cls := cX, slots := kX.instanceTypes.map defaultValue, vm := .none } = T1 at X₁ st1
  have hcat : (Value.ref T.heap.size).category = 1 := rfl
  have hcellA : T1.heap[T.heap.size]? = some (freshCell cX kX) := by rw [← hT1]; exact State.heap_pushCell_size _ _
  have d3' : decode c.code (pc + 3) = .ok (.dup, 1) := by rw [hb]; exact d3
  have d4' : decode c.code (pc + 4) = .ok (.ldc is, 2) := by rw [hb]; exact d4
  have hstr' : vk_R own is text sa s' := vk_R.warm hW0 hstr
  obtain ⟨U, hsteps, hrun, hend, hW, hsame, ce, hce, hO⟩ := X₁.ctorThrowS hexec htr (own := own) (cls := cls) (names := names) (ic := ic) hown' hcls hnames h (fun x hx => nomatch hx) hfX hkX hcellA (by rw [hhp, hT]; exact Nat.le_refl _) (msg := .ref sa) rfl
    (g := { method := m, pc := pc + 6, locals := ls, stack := .ref sa :: .ref T.heap.size :: .ref T.heap.size :: rest, locked := none }) rfl hsize rfl rfl (rest := rest) rfl
    (by rw [hb]; exact d6) (by rw [hb]; exact d9) hout hRframes (by simp only [List.map_cons, List.sum_cons, hcat]; omega) hlocks
  obtain ⟨f1, f2⟩ := vx_frame hsame
  rw [hhp] at f1 f2
  have hWs : s.WarmedH U.vm := State.WarmedH.trans hW0 hW
  have hcl : s.vm.findClass cls = some ce.cls := by
    have h9 := hO.cls
    rw [hvm] at h9
    exact h9
  have hall : s.sameButNew ({ U with vm := s.vm } : State) locs mc ms := by
    subst hA
    obtain ⟨e1, e2⟩ := hsame
    rw [State.setFrames_setFrames] at e1
    have h2 : (T.setVm s.vm).sameButNew ({ U with vm := s.vm } : State) [] (0 + 1) (0 + 6) := ⟨e1, e2⟩
    have h3 := X.same.trans h2
    rw [List.append_nil] at h3
    exact h3.mono hc hs
  refine ⟨U, ?_, .threw T.heap.size, hrun, hend, Or.inr ⟨T.heap.size, rfl, cls, ce, locs, hx U hWs.alike f1 (fun q hq => f2 q hq (fun z hz => nomatch hz)), hce, hO.vm, hcl, hWs, hall, hf⟩⟩
  refine st1 _ ?_
  show Steps p.tables e below (T1.setTop { method := m, pc := pc + 3, locals := ls, stack := .ref T.heap.size :: rest, locked := none }) _
  jvm_step X₁.here [X₁.here.top, hexec, d3', Value.category]
  exact X₁.ldcString hexec (own := own) (text := text) (index := is) (a := sa) hown' hstr'.1 hstr'.2
    (g := { method := m, pc := pc + 4, locals := ls, stack := .ref T.heap.size :: .ref T.heap.size :: rest, locked := none }) rfl d4' _ hsteps
/-- 'throw new E("text")', the text by a wide index -/
theorem vx_throwSW {cc : ByteArray} {pc : Nat} (hexec : p.tables.exec = Jvm.exec) (hb : c.code = cc) (hl : l.stackTraces = false) {own cls text : String} {names : List String} {ik is ic mc ms sa : Nat} {A : Nat → Prop}
    (hown : s.vm.findClass own = some m.cls) (hcls : Bundle.fit cls = true) (hnames : ∀ n ∈ names, Bundle.fit n = true)
    (hk : (Cond.classLink own ik cls).before args s = true) (hini : (Cond.initialized cls).before args s = true) (hstr : vk_R own is text sa s) (hat : ∀ w ∈ vx_atS own ic cls names, w.before args s = true)
    (hgood : ∀ w ∈ Cond.classLink own ik cls :: Cond.initialized cls :: vx_atS own ic cls names, vx_ot w = true)
    (hU : vx_Zq Bundle.tN "UNASSIGNED_STACK" Bundle.steD A s s.heap) (hN : vx_Zq Bundle.tN "SUPPRESSED_SENTINEL" Bundle.listD A s s.heap) (hS : va_S A s.heap H locs) (hsize : ls.size = c.maxLocals)
    (d0 : decode cc pc = .ok (.new ik, 3)) (d3 : decode cc (pc + 3) = .ok (.dup, 1)) (d4 : decode cc (pc + 4) = .ok (.ldc_w is, 3)) (d7 : decode cc (pc + 7) = .ok (.invokespecial ic, 3)) (d10 : decode cc (pc + 10) = .ok (.athrow, 1))
    (hout : ∀ x ∈ c.exceptionTable.toList, covers x (pc + 10) = false)
    (hRframes : names.length + 3 < R.frames) (hRlocals : (rest.map fun v => v.category).sum + (13 * (names.length + 1) + 43) ≤ R.locals) (hRcells : cells + 1 ≤ R.cells) (hRslots : slots + 6 ≤ R.slots) (hlocks : meth.locks = false)
    (hx : ∀ t : State, s.vm.Alike t.vm → H.size ≤ t.heap.size → (∀ q : Nat, q < H.size → t.heap[q]? = H[q]?) → XC cls s t)
    (hf : ∀ z ∈ locs, free z.base) (hc : cells + 1 ≤ mc) (hs : slots + 6 ≤ ms) :
    W p l e R s m args below meth c H locs cells slots (vx_MQ below Qc XC args s mc ms free) (F0 m pc ls rest) := by
  intro T hT X
  have htr : e.platform.stackTraces = false := (show e.platform.stackTraces = l.stackTraces by rw [X.admits.platform]).trans hl
  have Y := vx_rebase X (R' := { frames := R.frames, locals := R.locals, cells := 1, slots := 6 }) (Nat.le_refl _) (Nat.le_refl _) hRcells hRslots
  obtain ⟨s', hA⟩ : ∃ z, z = (T.setVm s.vm).setFrames (.invoking m args :: below) := ⟨_, rfl⟩
  rw [← hA] at Y
  have hvm : s'.vm = s.vm := by rw [hA]; rfl
  have hhp : s'.heap = H := by rw [hA]; exact hT
  have hW0 : s.WarmedH s'.vm := by rw [hvm]; exact State.WarmedH.refl s
  have hat' : ∀ w ∈ vx_atS own ic cls names, w.before args s' = true := fun w hw => vx_ot_at hW0 hvm.symm (hgood w (List.mem_cons_of_mem _ (List.mem_cons_of_mem _ hw))) (hat w hw)
  have hk' : (Cond.classLink own ik cls).before args s' = true := vx_ot_at hW0 hvm.symm (hgood _ List.mem_cons_self) hk
  have hini' : (Cond.initialized cls).before args s' = true := vx_ot_at hW0 hvm.symm (hgood _ (List.mem_cons_of_mem _ List.mem_cons_self)) hini
  have hU' : vx_Zq Bundle.tN "UNASSIGNED_STACK" Bundle.steD A s' s'.heap := by rw [hhp]; exact vx_Zq.moved hW0.alike (hU.kept hS.2.1)
  have hN' : vx_Zq Bundle.tN "SUPPRESSED_SENTINEL" Bundle.listD A s' s'.heap := by rw [hhp]; exact vx_Zq.moved hW0.alike (hN.kept hS.2.1)
  have h : ∀ w ∈ Bundle.ownAtoms own ic cls names, w.before args s' = true := vx_own hat' (vx_isRefq hU'.1) (vx_isRefq hN'.1) hU'.2.word hN'.2.word
  have hown' : s'.vm.findClass own = some m.cls := by rw [hvm]; exact hown
  have hins : (Cond.instantiable cls 6).before args s' = true := h _ (by simp [Bundle.ownAtoms])
  obtain ⟨vm₁, cX, kX, hfX, hkX, -, -, X₁, st1⟩ := Y.newCold hexec (own := own) (C := cls) (index := ik) (n := 6) hown' hk' hins hini'
    (g := F0 m pc ls rest) rfl (by rw [hb]; exact d0) (Nat.le_refl _) (Nat.le_refl _)
  generalize hT1 : (T.setVm vm₁).pushCell { cls := cX, slots := kX.instanceTypes.map defaultValue, vm := .none } = T1 at X₁ st1
  have hcat : (Value.ref T.heap.size).category = 1 := rfl
  have hcellA : T1.heap[T.heap.size]? = some (freshCell cX kX) := by rw [← hT1]; exact State.heap_pushCell_size _ _
  have d3' : decode c.code (pc + 3) = .ok (.dup, 1) := by rw [hb]; exact d3
  have d4' : decode c.code (pc + 4) = .ok (.ldc_w is, 3) := by rw [hb]; exact d4
  have hstr' : vk_R own is text sa s' := vk_R.warm hW0 hstr
  obtain ⟨U, hsteps, hrun, hend, hW, hsame, ce, hce, hO⟩ := X₁.ctorThrowS hexec htr (own := own) (cls := cls) (names := names) (ic := ic) hown' hcls hnames h (fun x hx => nomatch hx) hfX hkX hcellA (by rw [hhp, hT]; exact Nat.le_refl _) (msg := .ref sa) rfl
    (g := { method := m, pc := pc + 7, locals := ls, stack := .ref sa :: .ref T.heap.size :: .ref T.heap.size :: rest, locked := none }) rfl hsize rfl rfl (rest := rest) rfl
    (by rw [hb]; exact d7) (by rw [hb]; exact d10) hout hRframes (by simp only [List.map_cons, List.sum_cons, hcat]; omega) hlocks
  obtain ⟨f1, f2⟩ := vx_frame hsame
  rw [hhp] at f1 f2
  have hWs : s.WarmedH U.vm := State.WarmedH.trans hW0 hW
  have hcl : s.vm.findClass cls = some ce.cls := by
    have h9 := hO.cls
    rw [hvm] at h9
    exact h9
  have hall : s.sameButNew ({ U with vm := s.vm } : State) locs mc ms := by
    subst hA
    obtain ⟨e1, e2⟩ := hsame
    rw [State.setFrames_setFrames] at e1
    have h2 : (T.setVm s.vm).sameButNew ({ U with vm := s.vm } : State) [] (0 + 1) (0 + 6) := ⟨e1, e2⟩
    have h3 := X.same.trans h2
    rw [List.append_nil] at h3
    exact h3.mono hc hs
  refine ⟨U, ?_, .threw T.heap.size, hrun, hend, Or.inr ⟨T.heap.size, rfl, cls, ce, locs, hx U hWs.alike f1 (fun q hq => f2 q hq (fun z hz => nomatch hz)), hce, hO.vm, hcl, hWs, hall, hf⟩⟩
  refine st1 _ ?_
  show Steps p.tables e below (T1.setTop { method := m, pc := pc + 3, locals := ls, stack := .ref T.heap.size :: rest, locked := none }) _
  jvm_step X₁.here [X₁.here.top, hexec, d3', Value.category]
  exact X₁.ldcStringW hexec (own := own) (text := text) (index := is) (a := sa) hown' hstr'.1 hstr'.2
    (g := { method := m, pc := pc + 4, locals := ls, stack := .ref T.heap.size :: .ref T.heap.size :: rest, locked := none }) rfl d4' _ hsteps
end Ends
section Bodies
variable {l : Launch}
theorem vx_ofW {y : MethodName} {ws ws' : List Cond} {rm : Room} {Pc : Array Value → State → Prop} {Qc : Array Value → State → Outcome → State → Prop} {XC : String → State → State → Prop} {mc ms : Nat} {free : Addr → Prop} {cc : ByteArray} {maxL : Nat} {ret : Option FieldType}
    (hy : plainName y.cls = true) (hw : ws = Cond.code y cc maxL ret :: ws')
    (body : ∀ p e s m args below meth c s₁, BodyLoose p l y (headSpec ws rm) cc maxL ret e s m args below meth c s₁ → c.maxLocals = maxL → (∀ x ∈ c.exceptionTable.toList, False) → Pc args s →
      W p l e (headSpec ws rm).room s m args below meth c s.heap [] 0 0 (vx_MQ below Qc XC args s mc ms free) (entryFrame m args maxL)) : vx_Met l y ws rm Pc Qc XC mc ms free := by
  refine MetFree.of_bodyS (code := cc) (maxLocals := maxL) (ret := ret) hy ?_ ?_
  · intro args s m h hn
    obtain ⟨meth, c, h1, h2, h3, h4, h5, h6, -, -⟩ := Cond.code_spec hn (atoms_spec (ws := ws) h _ (by rw [hw]; exact List.mem_cons_self))
    exact ⟨meth, c, h1, h2, h3, h4, h5, h6⟩
  · intro p e s m args below meth c s₁ B hml hP _
    have hh0 : s₁.heap = s.heap := by rw [B.state]; rfl
    have ht : ∀ x ∈ c.exceptionTable.toList, False := by
      obtain ⟨meth9, c9, h1, h2, -, -, -, -, h7, -⟩ := Cond.code_spec B.named (atoms_spec (ws := ws) B.pre _ (by rw [hw]; exact List.mem_cons_self))
      cases Option.some.inj (h1.symm.trans B.method)
      cases Option.some.inj (h2.symm.trans (Stand.of_body B).code)
      intro x hx
      rw [Array.isEmpty_iff.mp h7] at hx
      cases hx
    obtain ⟨t, a1, o, b1, b2, b3⟩ := body p e s m args below meth c s₁ B hml ht hP s₁ hh0 (Stand.of_body B)
    exact ⟨t, o, a1, b1, b2, b3⟩
/-- the table of a body with handlers -/
theorem vx_table {p : Program} {x y : MethodName} {S : Spec} {cc bytes : ByteArray} {maxL maxL' : Nat} {ret ret' : Option FieldType} {e : Env} {s s₁ : State} {m : MethodId} {args : Array Value} {below : List Frame} {meth : Method} {c : Code} {hh : List (Nat × Nat × Nat × Nat)}
    (B : BodyLoose p l y S cc maxL ret e s m args below meth c s₁) (h : (Cond.codeWith y bytes maxL' ret' hh).before args s = true) : c.exceptionTable.toList = tableOf hh := by
  obtain ⟨m9, meth9, c9, hn9, h1, h2, -, -, h6, -⟩ := Cond.codeWith_spec h
  cases Option.some.inj (hn9.symm.trans B.named)
  cases Option.some.inj (h1.symm.trans B.method)
  cases Option.some.inj (h2.symm.trans (Stand.of_body B).code)
  rw [← h6, table_eq]
end Bodies
end VXA
/-! ===== END ===== -/
/-! ===== BEGIN a static call of a method with an exception table ===== -/
section VXS
variable {p : Program} {l : Launch} {e : Env} {R : Room} {s : State} {m : MethodId} {args : Array Value} {below : List Frame} {meth : Method} {c : Code} {T : State} {H : Heap} {locs : List Loc} {cells slots : Nat}
abbrev vx_CSW (R : Room) (s : State) (args : Array Value) (own : String) (index : Nat) (y : MethodName) (bytes : ByteArray) (maxL : Nat) (ret : Option FieldType) (hh : List (Nat × Nat × Nat × Nat)) (ws : List Cond) (rm : Room) (mc ms n : Nat) : Prop :=
  (rm.cells = mc ∧ rm.slots = ms ∧ rm.frames + 1 ≤ R.frames ∧ 8 + (maxL + 11) + rm.locals ≤ R.locals ∧ (∀ w ∈ ws, ∀ (a' : Array Value) (U : State), s.WarmedH U.vm → w.before a' U = true) ∧ Cond.codeWith y bytes maxL ret hh ∈ ws) ∧
  (Cond.codeWith y bytes maxL ret hh).before args s = true ∧ (Cond.initialized y.cls).before args s = true ∧ (y.cls ≠ "java/lang/invoke/MethodHandle" ∧ y.cls ≠ "java/lang/invoke/VarHandle") ∧
  (∀ sig, parseMethodDescriptor y.desc = some sig → n = sig.parameters.length) ∧ (Cond.methodLink own index y).before args s = true ∧ (Cond.static y).before args s = true
theorem vx_cwSW {own : String} {index maxL mc ms : Nat} {y : MethodName} {bytes : ByteArray} {ret : Option FieldType} {hh : List (Nat × Nat × Nat × Nat)} {Ts ws ws' : List Cond} {rm : Room} (n : Nat) (ht : ∀ w ∈ Ts, w.before args s = true) (hT : GoodIn Ts (va_wsS own index y ws)) (hw : ws = Cond.codeWith y bytes maxL ret hh :: ws') (hrc : rm.cells = mc) (hrs : rm.slots = ms)
    (hd : y.cls ≠ "java/lang/invoke/MethodHandle" ∧ y.cls ≠ "java/lang/invoke/VarHandle" ∧ (parseMethodDescriptor y.desc).map (fun d => d.parameters.length) = some n) (hR : rm.frames + 1 ≤ R.frames ∧ 8 + (maxL + 11) + rm.locals ≤ R.locals) :
    vx_CSW R s args own index y bytes maxL ret hh ws rm mc ms n := by
  have ok : ∀ w ∈ va_wsS own index y ws, w.before args s = true := fun w h => ht w (hT w h).1
  have hG : GoodIn Ts ws := fun w h => hT w (by unfold va_wsS; exact List.mem_append_right _ h)
  have hc : Cond.codeWith y bytes maxL ret hh ∈ ws := by rw [hw]; exact List.mem_cons_self
  refine ⟨⟨hrc, hrs, hR.1, hR.2, pay_in ht hG, hc⟩, ht _ (hG _ hc).1, ok _ (by simp [va_wsS]), ⟨hd.1, hd.2.1⟩, fun sig h => ?_, ok _ (by simp [va_wsS]), ok _ (by simp [va_wsS])⟩
  have h2 := hd.2.2
  rw [h] at h2
  exact (Option.some.inj h2).symm
theorem vx_callSW (X : Stand p l e R s m args below meth c T locs cells slots) (hexec : p.tables.exec = Jvm.exec) {own : String} {index : Nat} {y : MethodName} {bytes : ByteArray} {maxL : Nat} {ret : Option FieldType} {hh : List (Nat × Nat × Nat × Nat)}
    (hown : s.vm.findClass own = some m.cls) (hlink : (Cond.methodLink own index y).before args s = true) (hstat : (Cond.static y).before args s = true) (hinit : (Cond.initialized y.cls).before args s = true)
    (hcode : (Cond.codeWith y bytes maxL ret hh).before args s = true) (hy : y.cls ≠ "java/lang/invoke/MethodHandle" ∧ y.cls ≠ "java/lang/invoke/VarHandle")
    {W9 : Nat} {Pre : Pt → Array Value → Prop} {Post : Pt → Array Value → Option Value → Pt → Prop} (hK : Back l R p e below s args y 3 W9 Pre Post)
    {g : JFrame} (hg : g.method = m) (hsize : g.locals.size = c.maxLocals) {argsL rest : List Value} (hlen : ∀ sig, parseMethodDescriptor y.desc = some sig → argsL.length = sig.parameters.length)
    (hstack : g.stack = argsL.reverse ++ rest) (hW : 2 * g.monitorRoom + (rest.map fun v => v.category).sum ≤ W9) (hdg : decode c.code g.pc = .ok (.invokestatic index, 3))
    (hpre : ∀ vm₁, s.WarmedH vm₁ → Pre ⟨T.setVm vm₁, locs, cells, slots⟩ argsL.toArray) :
    ∃ (v : Option Value) (vm₁ : Vm) (B : Pt), s.WarmedH vm₁ ∧ Stand p l e R s m args below meth c B.U B.locs B.cells B.slots ∧ Post ⟨T.setVm vm₁, locs, cells, slots⟩ argsL.toArray v B ∧
      ∀ target, Steps p.tables e below (B.U.setTop { g with pc := g.pc + 3, stack := v.toList ++ rest }) target → Steps p.tables e below (T.setTop g) target := by
  obtain ⟨mk, methM, cM, hnamed, hmethM, -, -, -, -, -, -, hsigM⟩ := Cond.codeWith_spec hcode
  have hstatic : methM.isStatic = true := Cond.static_spec hnamed hmethM hstat
  obtain ⟨kP, hkP, -⟩ := className_of_methodNamed hnamed
  have hinitP : kP.init = .initialized := Cond.initialized_spec (findClass_of_methodNamed hnamed) hkP hinit
  obtain ⟨vm₁, X₁, hstep₁⟩ := X.invokestatic hexec hown hlink hnamed hmethM hstatic hkP hinitP hy (g := g) hg (argsL := argsL) (rest := rest) (hlen _ hsigM) hstack hdg
  obtain ⟨v, B, X', hpost, hsteps⟩ := hK m meth c ⟨T.setVm vm₁, locs, cells, slots⟩ { g with stack := rest } (.invokestatic index) mk argsL.toArray X₁ hg hsize hdg hW (X₁.named hnamed) (hpre vm₁ X₁.warmed)
  exact ⟨v, vm₁, B, X₁.warmed, X', hpost, fun target h => hstep₁ _ fun acts => by rw [doInvoke_state]; exact hsteps.trans h⟩
theorem vx_runSW {y : MethodName} {bytes cc : ByteArray} {maxL nL mc ms n index : Nat} {ret : Option FieldType} {hh : List (Nat × Nat × Nat × Nat)} {ws : List Cond} {rm : Room} {Pc : Array Value → State → Prop} {Qc : Array Value → State → Outcome → State → Prop} {free : Addr → Prop} {Ts : List Cond} {own : String} {As rest : List Value} {g : JFrame}
    (S : CallFix p m c cc nL s args Ts own) (hM : Met l y ws rm Pc Qc mc ms free) (cw : vx_CSW R s args own index y bytes maxL ret hh ws rm mc ms n) (hp : PreS s H Pc As)
    (hg : g.method = m) (hn : As.length = n) (hsize : g.locals.size = nL) (hstack : g.stack = As.reverse ++ rest) (hW : 2 * g.monitorRoom + (rest.map fun v => v.category).sum ≤ 8) (hdg : decode cc g.pc = .ok (.invokestatic index, 3)) (hf : cells + mc ≤ R.cells ∧ slots + ms ≤ R.slots) :
    va_Run p l e R s m args below meth c H locs cells slots mc ms g rest (Qc As.toArray) (free) := by
  obtain ⟨⟨hrc, hrs, hfr, hlo, hws, hcw⟩, hcode, hini, hy, hlen, hl, hstt⟩ := cw
  have hK : Back l R p e below s args y 3 8 (PreOf R mc ms Pc) (PostOf Qc mc ms free) := va_backW (hh := hh) (bytes := bytes) (maxL := maxL) (ret := ret) hM hp.1 hrc hrs hfr hlo hws hcw (fun a' U hW => word_at hW (Or.inl (by first | rfl | simp [Cond.onTables, Cond.keeps, Cond.steady])) hini)
  obtain ⟨hx, hb, hml, ho, -⟩ := S
  intro T hT X
  obtain ⟨v, vm₁, ⟨U', l2, c2, s2⟩, hW₁, X', ⟨g', mk, t, L, e1, e2, hq, h1, hL, h2, h3⟩, st⟩ := vx_callSW X hx (hh := hh) (bytes := bytes) (maxL := maxL) (ret := ret) ho hl hstt hini hcode hy hK hg (hsize.trans hml.symm) (argsL := As) (rest := rest) (fun sig h => hn.trans (hlen sig h)) hstack hW (by rw [hb]; exact hdg)
    (fun vm₁ hW₁ => ⟨hf.1, hf.2, hp.2 (T.setVm vm₁) hT hW₁⟩)
  dsimp only [Pt.U, Pt.locs, Pt.cells, Pt.slots] at X' e1 e2 h1 h2 h3 st
  subst h1; subst h2; subst h3
  exact ⟨v, (T.setVm vm₁).calling g' mk As.toArray, t, U', L, hT, X', hL, e1, e2, hq, st⟩
/-- not caught here, past rows that name other classes: it goes on to the caller -/
theorem vx_outP {p : Program} {l : Launch} {e : Env} {R : Room} {s : State} {m : MethodId} {args : Array Value} {below : List Frame} {meth : Method} {c : Code} {H : Heap} {locs : List Loc} {cells slots : Nat} {free : Addr → Prop} {ls : Array Slot} {rest : List Value} {Qc : Array Value → State → Outcome → State → Prop} {XC : String → State → State → Prop}
    {pc : Nat} {own E : String} {ce : Cell} {q : Addr} {mc ms : Nat} (hown : s.vm.findClass own = some m.cls) (hlocks : meth.locks = false)
    (hpass : ∀ z ∈ c.exceptionTable.toList, covers z pc = false ∨ (z.catchType ≠ 0 ∧ ∃ nm : String, (Cond.classLink own z.catchType nm).before args s = true ∧ va_Nc E nm s)) (hcell : H[q]? = some ce) (hv : ce.vm = .none) (hcl : s.vm.findClass E = some ce.cls)
    (hx : ∀ t : State, t.heap = H → s.vm.Alike t.vm → XC E s t) (hf : ∀ z ∈ locs, free z.base) (hc : cells ≤ mc) (hs : slots ≤ ms) :
    vx_W p l e R s m args below meth c H locs cells slots (vx_MQ below Qc XC args s mc ms free) (F0 m pc ls rest) q := by
  intro T hT X
  have hpl : e.platform.magicAccessors = ({} : Platform).magicAccessors := by rw [X.admits.platform]
  obtain ⟨vm', hW', X', st⟩ := X.outThrough hlocks q (g := F0 m pc ls rest) rfl rfl rfl (cell := ce) (by rw [hT]; exact hcell) (by rw [hv]; rfl)
    (by obtain ⟨k9, h9, -⟩ := Vm.findClass_spec hcl; exact ⟨k9, h9⟩) (fun z hz => by
      rcases hpass z hz with h | ⟨hz0, nm, hl1, hn1⟩
      · exact Or.inl h
      · obtain ⟨c6, hc6, hcl6⟩ := Cond.classLink_spec hown hl1 e.platform hpl
        obtain ⟨a8, b8, h1, h2, h3⟩ := hn1
        cases Option.some.inj (h1.symm.trans hcl)
        cases Option.some.inj (h2.symm.trans hc6)
        exact Or.inr ⟨hz0, _, hcl6, h3⟩)
  obtain ⟨g₀, hfr⟩ := X'.frames_eq
  have hcell9 : ((T.setVm vm').setFrames (.throwing q :: below)).heap[q]? = some ce := by
    show T.heap[q]? = some ce
    rw [hT]; exact hcell
  have hend : Ended ((T.setVm vm').setFrames (.throwing q :: below)) below (.threw q) := State.frames_setFrames _ (State.cur_lt_of_frames hfr)
  refine ⟨(T.setVm vm').setFrames (.throwing q :: below), ?_, .threw q, X'.here.running, hend, Or.inr ⟨q, rfl, E, ce, locs, hx _ hT (X'.ends _).1.alike, hcell9, hv, hcl, (X'.ends _).1, (X'.ends _).2.mono hc hs, hf⟩⟩
  rw [X.pushThrowing_eq]
  exact st
/-- a thing of a world lies in the heap -/
theorem vx_lt {D : va_G} {cl : List vw_C} {ws : va_W} {H1 : Heap} (h : va_P D cl ws H1) {k : Nat} {q : Nat × va_E} (hk : ws[k]? = some q) : q.1 < H1.size := (h k q hk).lt
end VXS
/-! ===== END ===== -/
/-! ===== BEGIN methods with a table of their own: called by a name, returning or throwing ===== -/
section VXH
/-! vx_backW, vx_callVX, vx_callSX, vx_callVW, vx_runVW, vx_runVX, vx_runSX, vx_ofWH follow the same proofs as their sisters above (Free/Laws.lean, Shelf42/LK1.lean); vx_outP calls Shelf42/NT130.lean (outThrough). -/
section
variable {l : Launch} {R : Room} {p : Program} {e : Env} {below : List Frame} {s : State} {sargs : Array Value} {y : MethodName} {len W9 : Nat}
theorem vx_backW {ws : List Cond} {rm : Room} {Pc : Array Value → State → Prop} {Qc : Array Value → State → Outcome → State → Prop} {XC : String → State → State → Prop} {mc ms : Nat} {free : Addr → Prop} {bytes : ByteArray} {maxL : Nat} {ret : Option FieldType} {hh : List (Nat × Nat × Nat × Nat)}
    (hM : vx_Met l y ws rm Pc Qc XC mc ms free) (hblind : FrameBlind Pc) (hrc : rm.cells = mc) (hrs : rm.slots = ms)
    (hframes : rm.frames + 1 ≤ R.frames) (hlocals : W9 + (maxL + 11) + rm.locals ≤ R.locals)
    (hws : ∀ w ∈ ws, ∀ a' U, s.WarmedH U.vm → w.before a' U = true) (hcode : Cond.codeWith y bytes maxL ret hh ∈ ws) (hinit : ∀ a' U, s.WarmedH U.vm → (Cond.initialized y.cls).before a' U = true) :
    vx_Back l R p e below s sargs y len W9 (PreOf R mc ms Pc) (PostOf Qc mc ms free) (vx_Post XC mc ms free) := by
  intro m meth c A g ig mk a X hg hsize hdg hW hn hp
  have h1 : (headSpec ws rm).pre.before a A.U = true := atoms_intro fun w hw => hws w hw _ _ X.warmed
  have h2 : (Cond.codeWith y bytes maxL ret hh).before a A.U = true := hws _ hcode _ _ X.warmed
  have h3 : (Cond.initialized y.cls).before a A.U = true := hinit _ _ X.warmed
  have h4 : A.cells + (headSpec ws rm).room.cells ≤ R.cells := by rw [show (headSpec ws rm).room.cells = mc from hrc]; exact hp.1
  have h5 : A.slots + (headSpec ws rm).room.slots ≤ R.slots := by rw [show (headSpec ws rm).room.slots = ms from hrs]; exact hp.2.1
  have hPc : Pc a (A.U.calling g mk a) := hblind _ _ _ _ hp.2.2
  obtain ⟨U, Ls, c0, s0⟩ := A
  dsimp only [Pt.U, Pt.locs, Pt.cells, Pt.slots] at h1 h2 h3 h4 h5 X hn hPc ⊢
  obtain ⟨m9, methY, cY, hn9, hmY, hcY, -, hlY, -⟩ := Cond.codeWith_spec h2
  cases Option.some.inj (hn9.symm.trans hn)
  obtain ⟨kY, hkY, -⟩ := className_of_methodNamed hn
  have hinitY : kY.init = .initialized := Cond.initialized_spec (findClass_of_methodNamed hn) hkY h3
  have h : At U g.method c below := by rw [hg]; exact X.here
  have hlocals9 : W9 + (maxL + 11) + (headSpec ws rm).room.locals ≤ R.locals := hlocals
  have happ : (headSpec ws rm).appliesLoose y e.platform (U.calling g mk a) = true :=
    Spec.appliesLoose_calling (g := g) h hdg hn hkY hinitY
      (X.room_calling (g := g) (R' := (headSpec ws rm).room) hsize hmY hcY hframes (by rw [hlY]; omega) h4 h5) h1
  obtain ⟨mid, hmid⟩ := h.above
  have hfr : (U.setTop g).frames = (.java g :: mid) ++ below := by rw [State.frames_setTop' g h.top, hmid]; rfl
  obtain ⟨o, s₂, hsteps, -, hend, hq⟩ := Steps.callFree hM p X.admits X.cas X.clock (acts := []) hfr happ hPc trivial
  have hq' : vx_Q Qc XC mc ms free a (U.calling g mk a) o s₂ := hq
  rw [State.frames_setTop' g h.top] at hend
  obtain ⟨g₀, hg0⟩ := Option.isSome_iff_exists.mp h.top
  obtain ⟨r, hr⟩ := State.topJava?_eq_some.mp hg0
  have hr' : (({ U with heap := s₂.heap, slotsUsed := s₂.slotsUsed } : State).setVm s₂.vm).frames = .java g₀ :: r := hr
  rcases hq' with ⟨hqc, L, hfe, hL⟩ | ⟨q, rfl, E, ce, L, hx, hce, hcv, hcl, hW₂, hsm, hL⟩
  · obtain ⟨⟨v, rfl⟩, hW₂, e2, q2, q3, q4, q5, q6⟩ := id hfe
    have e3 : s₂ = ({ (U.calling g mk a).setFrames s₂.frames with heap := s₂.heap, slotsUsed := s₂.slotsUsed } : State).setVm s₂.vm := by
      have : s₂ = ({ s₂ with vm := (U.calling g mk a).vm } : State).setVm s₂.vm := rfl
      rw [e2] at this
      exact this
    obtain ⟨c₂, i₂, len₂, hc₂, hd₂, hf₂⟩ := hend
    have hW' : U.WarmedH s₂.vm := hW₂
    have hcc : c₂ = c := by
      have h1 : s₂.code? g.method = U.code? g.method := by
        rw [State.code?_eq, State.code?_eq, hW'.alike.method?]
      exact Option.some.inj (hc₂.symm.trans (h1.trans h.code))
    subst hcc
    have hlen : len₂ = len := by rw [hdg] at hd₂; cases hd₂; rfl
    subst hlen
    have hs₂ : s₂ = (({ U with heap := s₂.heap, slotsUsed := s₂.slotsUsed } : State).setVm s₂.vm).setTop { g with pc := g.pc + len₂, stack := v.toList ++ g.stack } := by
      refine e3.trans ?_
      rw [hf₂, State.calling_eq h.top, State.setFrames_setFrames, State.setTop_of_frames _ hr', hr]
      rfl
    have hsame : U.sameButNew ({ U with heap := s₂.heap, slotsUsed := s₂.slotsUsed } : State) L mc ms := by
      refine ⟨?_, q2, q3, q4, q5, q6⟩
      obtain ⟨t, ht, -⟩ := State.frames_cons hr
      show ({ U with heap := s₂.heap, slotsUsed := s₂.slotsUsed } : State) = { U.setFrames U.frames with heap := s₂.heap, slotsUsed := s₂.slotsUsed }
      rw [State.setFrames_self ht]
    subst hg
    refine Or.inl ⟨v, ⟨(({ U with heap := s₂.heap, slotsUsed := s₂.slotsUsed } : State).setVm s₂.vm), Ls ++ L, c0 + mc, s0 + ms⟩,
      ⟨X.admits, X.cas, X.clock, X.frames, X.room, X.hears, X.method, X.code, (X.here.setHeapUsed s₂.heap s₂.slotsUsed).setVm hW'.alike, X.tail, State.WarmedH.trans X.warmed hW', X.limits, X.bytes, X.same.trans (hsame.setVm s.vm)⟩,
      ⟨g, mk, s₂, L, rfl, rfl, hqc, rfl, hL, rfl, rfl⟩, ?_⟩
    show Steps p.tables e below _ ((({ U with heap := s₂.heap, slotsUsed := s₂.slotsUsed } : State).setVm s₂.vm).setTop { g with pc := g.pc + len₂, stack := v.toList ++ g.stack })
    rw [← hs₂]
    exact hsteps
  · obtain ⟨e2, q2, q3, q4, q5, q6⟩ := id hsm
    have e3 : s₂ = ({ (U.calling g mk a).setFrames s₂.frames with heap := s₂.heap, slotsUsed := s₂.slotsUsed } : State).setVm s₂.vm := by
      have : s₂ = ({ s₂ with vm := (U.calling g mk a).vm } : State).setVm s₂.vm := rfl
      rw [e2] at this
      exact this
    have hf₂ : s₂.frames = .throwing q :: .java g :: U.frames.tail := hend
    have hW' : U.WarmedH s₂.vm := hW₂
    have hs₂ : s₂ = ((({ U with heap := s₂.heap, slotsUsed := s₂.slotsUsed } : State).setVm s₂.vm).setTop g).pushFrame (.throwing q) := by
      refine e3.trans ?_
      rw [hf₂, State.calling_eq h.top, State.setFrames_setFrames, State.pushFrame, State.frames_setTop _ hr', State.setTop_of_frames _ hr', State.setFrames_setFrames, hr]
      rfl
    have hsame : U.sameButNew ({ U with heap := s₂.heap, slotsUsed := s₂.slotsUsed } : State) L mc ms := by
      refine ⟨?_, q2, q3, q4, q5, q6⟩
      obtain ⟨t, ht, -⟩ := State.frames_cons hr
      show ({ U with heap := s₂.heap, slotsUsed := s₂.slotsUsed } : State) = { U.setFrames U.frames with heap := s₂.heap, slotsUsed := s₂.slotsUsed }
      rw [State.setFrames_self ht]
    subst hg
    refine Or.inr ⟨q, ⟨(({ U with heap := s₂.heap, slotsUsed := s₂.slotsUsed } : State).setVm s₂.vm), Ls ++ L, c0 + mc, s0 + ms⟩,
      ⟨X.admits, X.cas, X.clock, X.frames, X.room, X.hears, X.method, X.code, (X.here.setHeapUsed s₂.heap s₂.slotsUsed).setVm hW'.alike, X.tail, State.WarmedH.trans X.warmed hW', X.limits, X.bytes, X.same.trans (hsame.setVm s.vm)⟩,
      ⟨g, mk, s₂, L, E, ce, rfl, rfl, hx, hce, hcv, hcl, rfl, hL, rfl, rfl⟩, ?_⟩
    show Steps p.tables e below _ (((({ U with heap := s₂.heap, slotsUsed := s₂.slotsUsed } : State).setVm s₂.vm).setTop g).pushFrame (.throwing q))
    rw [← hs₂]
    exact hsteps
end
variable {p : Program} {l : Launch} {e : Env} {R : Room} {s : State} {m : MethodId} {args : Array Value} {below : List Frame} {meth : Method} {c : Code} {T : State} {H : Heap} {locs : List Loc} {cells slots : Nat}
theorem vx_callVX (X : Stand p l e R s m args below meth c T locs cells slots) (hexec : p.tables.exec = Jvm.exec) {own C : String} {index : Nat} {y : MethodName} {bytes : ByteArray} {maxL : Nat} {ret : Option FieldType} {hh : List (Nat × Nat × Nat × Nat)}
    (hown : s.vm.findClass own = some m.cls) (hlink : (Cond.methodLink own index y).before args s = true) (hinst : (Cond.instanceMethod y).before args s = true) (hsel : (Cond.selects C y y).before args s = true)
    (hcode : (Cond.codeWith y bytes maxL ret hh).before args s = true) (hy : y.cls ≠ "java/lang/invoke/MethodHandle" ∧ y.cls ≠ "java/lang/invoke/VarHandle")
    {W9 : Nat} {Pre : Pt → Array Value → Prop} {Post : Pt → Array Value → Option Value → Pt → Prop} {PostX : Pt → Array Value → Addr → Pt → Prop} (hK : vx_Back l R p e below s args y 3 W9 Pre Post PostX)
    {b : Addr} {cellB : Cell} (hcell : T.heap[b]? = some cellB) (hobj : cellB.vm.isStatics = false) (hcls : s.vm.findClass C = some cellB.cls)
    {g : JFrame} (hg : g.method = m) (hsize : g.locals.size = c.maxLocals) {argsL rest : List Value} (hlen : ∀ sig, parseMethodDescriptor y.desc = some sig → argsL.length = sig.parameters.length)
    (hstack : g.stack = argsL.reverse ++ .ref b :: rest) (hW : 2 * g.monitorRoom + (rest.map fun v => v.category).sum ≤ W9) (hdg : decode c.code g.pc = .ok (.invokevirtual index, 3))
    (hpre : ∀ vm₁, s.WarmedH vm₁ → Pre ⟨T.setVm vm₁, locs, cells, slots⟩ (Value.ref b :: argsL).toArray) :
    (∃ (v : Option Value) (vm₁ : Vm) (B : Pt), s.WarmedH vm₁ ∧ Stand p l e R s m args below meth c B.U B.locs B.cells B.slots ∧ Post ⟨T.setVm vm₁, locs, cells, slots⟩ (Value.ref b :: argsL).toArray v B ∧
      ∀ target, Steps p.tables e below (B.U.setTop { g with pc := g.pc + 3, stack := v.toList ++ rest }) target → Steps p.tables e below (T.setTop g) target) ∨
    (∃ (q : Addr) (vm₁ : Vm) (B : Pt), s.WarmedH vm₁ ∧ Stand p l e R s m args below meth c B.U B.locs B.cells B.slots ∧ PostX ⟨T.setVm vm₁, locs, cells, slots⟩ (Value.ref b :: argsL).toArray q B ∧
      Steps p.tables e below (T.setTop g) ((B.U.setTop { g with stack := rest }).pushFrame (.throwing q))) := by
  obtain ⟨mk, methM, hnamed, hmethM, hstM, habM⟩ := Cond.instanceMethod_spec hinst
  obtain ⟨m8, methM', cM, hn8, hmethM', -, -, -, -, -, -, hsigM⟩ := Cond.codeWith_spec hcode
  cases Option.some.inj (hn8.symm.trans hnamed)
  cases hmethM.symm.trans hmethM'
  obtain ⟨c2, r2, m2, q1, q2, q3, q4, kP, hkP, hkPi⟩ := Cond.selects_spec hsel
  cases hcls.symm.trans q1
  cases (State.methodFound?_of_named hnamed hy).symm.trans q2
  cases hnamed.symm.trans q3
  have hselP : selectMethod e.platform s.vm cellB.cls mk = .method mk := by rw [Launch.admits_selectMethod X.admits]; exact q4
  obtain ⟨vm₁, X₁, hstep₁⟩ := X.invokevirtual hexec hown hlink hnamed hmethM hstM hkP hkPi hy (a := b) (cell := cellB) hcell
    (fun z h => by rw [h] at hobj; cases hobj) hselP hmethM habM hkP hkPi (g := g) hg (argsL := argsL) (rest := rest) (hlen _ hsigM) hstack hdg
  rcases hK m meth c ⟨T.setVm vm₁, locs, cells, slots⟩ { g with stack := rest } (.invokevirtual index) mk (Value.ref b :: argsL).toArray X₁ hg hsize hdg hW (X₁.named hnamed) (hpre vm₁ X₁.warmed) with ⟨v, B, X', hpost, hsteps⟩ | ⟨q, B, X', hpost, hsteps⟩
  · exact Or.inl ⟨v, vm₁, B, X₁.warmed, X', hpost, fun target h => hstep₁ _ fun acts => by rw [doInvoke_state]; exact hsteps.trans h⟩
  · exact Or.inr ⟨q, vm₁, B, X₁.warmed, X', hpost, hstep₁ _ fun acts => by rw [doInvoke_state]; exact hsteps⟩
theorem vx_callSX (X : Stand p l e R s m args below meth c T locs cells slots) (hexec : p.tables.exec = Jvm.exec) {own : String} {index : Nat} {y : MethodName} {bytes : ByteArray} {maxL : Nat} {ret : Option FieldType} {hh : List (Nat × Nat × Nat × Nat)}
    (hown : s.vm.findClass own = some m.cls) (hlink : (Cond.methodLink own index y).before args s = true) (hstat : (Cond.static y).before args s = true) (hinit : (Cond.initialized y.cls).before args s = true)
    (hcode : (Cond.codeWith y bytes maxL ret hh).before args s = true) (hy : y.cls ≠ "java/lang/invoke/MethodHandle" ∧ y.cls ≠ "java/lang/invoke/VarHandle")
    {W9 : Nat} {Pre : Pt → Array Value → Prop} {Post : Pt → Array Value → Option Value → Pt → Prop} {PostX : Pt → Array Value → Addr → Pt → Prop} (hK : vx_Back l R p e below s args y 3 W9 Pre Post PostX)
    {g : JFrame} (hg : g.method = m) (hsize : g.locals.size = c.maxLocals) {argsL rest : List Value} (hlen : ∀ sig, parseMethodDescriptor y.desc = some sig → argsL.length = sig.parameters.length)
    (hstack : g.stack = argsL.reverse ++ rest) (hW : 2 * g.monitorRoom + (rest.map fun v => v.category).sum ≤ W9) (hdg : decode c.code g.pc = .ok (.invokestatic index, 3))
    (hpre : ∀ vm₁, s.WarmedH vm₁ → Pre ⟨T.setVm vm₁, locs, cells, slots⟩ argsL.toArray) :
    (∃ (v : Option Value) (vm₁ : Vm) (B : Pt), s.WarmedH vm₁ ∧ Stand p l e R s m args below meth c B.U B.locs B.cells B.slots ∧ Post ⟨T.setVm vm₁, locs, cells, slots⟩ argsL.toArray v B ∧
      ∀ target, Steps p.tables e below (B.U.setTop { g with pc := g.pc + 3, stack := v.toList ++ rest }) target → Steps p.tables e below (T.setTop g) target) ∨
    (∃ (q : Addr) (vm₁ : Vm) (B : Pt), s.WarmedH vm₁ ∧ Stand p l e R s m args below meth c B.U B.locs B.cells B.slots ∧ PostX ⟨T.setVm vm₁, locs, cells, slots⟩ argsL.toArray q B ∧
      Steps p.tables e below (T.setTop g) ((B.U.setTop { g with stack := rest }).pushFrame (.throwing q))) := by
  obtain ⟨mk, methM, cM, hnamed, hmethM, -, -, -, -, -, -, hsigM⟩ := Cond.codeWith_spec hcode
  have hstatic : methM.isStatic = true := Cond.static_spec hnamed hmethM hstat
  obtain ⟨kP, hkP, -⟩ := className_of_methodNamed hnamed
  have hinitP : kP.init = .initialized := Cond.initialized_spec (findClass_of_methodNamed hnamed) hkP hinit
  obtain ⟨vm₁, X₁, hstep₁⟩ := X.invokestatic hexec hown hlink hnamed hmethM hstatic hkP hinitP hy (g := g) hg (argsL := argsL) (rest := rest) (hlen _ hsigM) hstack hdg
  rcases hK m meth c ⟨T.setVm vm₁, locs, cells, slots⟩ { g with stack := rest } (.invokestatic index) mk argsL.toArray X₁ hg hsize hdg hW (X₁.named hnamed) (hpre vm₁ X₁.warmed) with ⟨v, B, X', hpost, hsteps⟩ | ⟨q, B, X', hpost, hsteps⟩
  · exact Or.inl ⟨v, vm₁, B, X₁.warmed, X', hpost, fun target h => hstep₁ _ fun acts => by rw [doInvoke_state]; exact hsteps.trans h⟩
  · exact Or.inr ⟨q, vm₁, B, X₁.warmed, X', hpost, hstep₁ _ fun acts => by rw [doInvoke_state]; exact hsteps⟩
theorem vx_callVW (X : Stand p l e R s m args below meth c T locs cells slots) (hexec : p.tables.exec = Jvm.exec) {own C : String} {index : Nat} {y : MethodName} {bytes : ByteArray} {maxL : Nat} {ret : Option FieldType} {hh : List (Nat × Nat × Nat × Nat)}
    (hown : s.vm.findClass own = some m.cls) (hlink : (Cond.methodLink own index y).before args s = true) (hinst : (Cond.instanceMethod y).before args s = true) (hsel : (Cond.selects C y y).before args s = true)
    (hcode : (Cond.codeWith y bytes maxL ret hh).before args s = true) (hy : y.cls ≠ "java/lang/invoke/MethodHandle" ∧ y.cls ≠ "java/lang/invoke/VarHandle")
    {W9 : Nat} {Pre : Pt → Array Value → Prop} {Post : Pt → Array Value → Option Value → Pt → Prop} (hK : Back l R p e below s args y 3 W9 Pre Post)
    {b : Addr} {cellB : Cell} (hcell : T.heap[b]? = some cellB) (hobj : cellB.vm.isStatics = false) (hcls : s.vm.findClass C = some cellB.cls)
    {g : JFrame} (hg : g.method = m) (hsize : g.locals.size = c.maxLocals) {argsL rest : List Value} (hlen : ∀ sig, parseMethodDescriptor y.desc = some sig → argsL.length = sig.parameters.length)
    (hstack : g.stack = argsL.reverse ++ .ref b :: rest) (hW : 2 * g.monitorRoom + (rest.map fun v => v.category).sum ≤ W9) (hdg : decode c.code g.pc = .ok (.invokevirtual index, 3))
    (hpre : ∀ vm₁, s.WarmedH vm₁ → Pre ⟨T.setVm vm₁, locs, cells, slots⟩ (Value.ref b :: argsL).toArray) :
    ∃ (v : Option Value) (vm₁ : Vm) (B : Pt), s.WarmedH vm₁ ∧ Stand p l e R s m args below meth c B.U B.locs B.cells B.slots ∧ Post ⟨T.setVm vm₁, locs, cells, slots⟩ (Value.ref b :: argsL).toArray v B ∧
      ∀ target, Steps p.tables e below (B.U.setTop { g with pc := g.pc + 3, stack := v.toList ++ rest }) target → Steps p.tables e below (T.setTop g) target := by
  obtain ⟨mk, methM, hnamed, hmethM, hstM, habM⟩ := Cond.instanceMethod_spec hinst
  obtain ⟨m8, methM', cM, hn8, hmethM', -, -, -, -, -, -, hsigM⟩ := Cond.codeWith_spec hcode
  cases Option.some.inj (hn8.symm.trans hnamed)
  cases hmethM.symm.trans hmethM'
  obtain ⟨c2, r2, m2, q1, q2, q3, q4, kP, hkP, hkPi⟩ := Cond.selects_spec hsel
  cases hcls.symm.trans q1
  cases (State.methodFound?_of_named hnamed hy).symm.trans q2
  cases hnamed.symm.trans q3
  have hselP : selectMethod e.platform s.vm cellB.cls mk = .method mk := by rw [Launch.admits_selectMethod X.admits]; exact q4
  obtain ⟨vm₁, X₁, hstep₁⟩ := X.invokevirtual hexec hown hlink hnamed hmethM hstM hkP hkPi hy (a := b) (cell := cellB) hcell
    (fun z h => by rw [h] at hobj; cases hobj) hselP hmethM habM hkP hkPi (g := g) hg (argsL := argsL) (rest := rest) (hlen _ hsigM) hstack hdg
  obtain ⟨v, B, X', hpost, hsteps⟩ := hK m meth c ⟨T.setVm vm₁, locs, cells, slots⟩ { g with stack := rest } (.invokevirtual index) mk (Value.ref b :: argsL).toArray X₁ hg hsize hdg hW (X₁.named hnamed) (hpre vm₁ X₁.warmed)
  exact ⟨v, vm₁, B, X₁.warmed, X', hpost, fun target h => hstep₁ _ fun acts => by rw [doInvoke_state]; exact hsteps.trans h⟩
abbrev vx_CVW (R : Room) (s : State) (args : Array Value) (own C : String) (index : Nat) (y : MethodName) (bytes : ByteArray) (maxL : Nat) (ret : Option FieldType) (hh : List (Nat × Nat × Nat × Nat)) (ws : List Cond) (rm : Room) (mc ms n : Nat) : Prop :=
  (rm.cells = mc ∧ rm.slots = ms ∧ rm.frames + 1 ≤ R.frames ∧ 8 + (maxL + 11) + rm.locals ≤ R.locals ∧ (∀ w ∈ ws, ∀ (a' : Array Value) (U : State), s.WarmedH U.vm → w.before a' U = true) ∧ Cond.codeWith y bytes maxL ret hh ∈ ws) ∧
  (Cond.codeWith y bytes maxL ret hh).before args s = true ∧ (Cond.initialized y.cls).before args s = true ∧ (y.cls ≠ "java/lang/invoke/MethodHandle" ∧ y.cls ≠ "java/lang/invoke/VarHandle") ∧
  (∀ sig, parseMethodDescriptor y.desc = some sig → n = sig.parameters.length) ∧ (Cond.methodLink own index y).before args s = true ∧ (Cond.instanceMethod y).before args s = true ∧ (Cond.selects C y y).before args s = true
theorem vx_cwVW {own C : String} {index maxL mc ms : Nat} {y : MethodName} {bytes : ByteArray} {ret : Option FieldType} {hh : List (Nat × Nat × Nat × Nat)} {Ts ws ws' : List Cond} {rm : Room} (n : Nat) (ht : ∀ w ∈ Ts, w.before args s = true) (hT : GoodIn Ts (wsV own index C y ws)) (hw : ws = Cond.codeWith y bytes maxL ret hh :: ws') (hrc : rm.cells = mc) (hrs : rm.slots = ms)
    (hd : y.cls = C ∧ y.cls ≠ "java/lang/invoke/MethodHandle" ∧ y.cls ≠ "java/lang/invoke/VarHandle" ∧ (parseMethodDescriptor y.desc).map (fun d => d.parameters.length) = some n) (hR : rm.frames + 1 ≤ R.frames ∧ 8 + (maxL + 11) + rm.locals ≤ R.locals) :
    vx_CVW R s args own C index y bytes maxL ret hh ws rm mc ms n := by
  obtain ⟨hC, hd⟩ := hd
  subst hC
  have ok : ∀ w ∈ wsV own index y.cls y ws, w.before args s = true := fun w h => ht w (hT w h).1
  have hG : GoodIn Ts ws := fun w h => hT w (by unfold wsV; exact List.mem_append_right _ h)
  have hc : Cond.codeWith y bytes maxL ret hh ∈ ws := by rw [hw]; exact List.mem_cons_self
  refine ⟨⟨hrc, hrs, hR.1, hR.2, pay_in ht hG, hc⟩, ht _ (hG _ hc).1, ok _ (by simp [wsV]), ⟨hd.1, hd.2.1⟩, fun sig h => ?_, ok _ (by simp [wsV]), ok _ (by simp [wsV]), ok _ (by simp [wsV])⟩
  have h2 := hd.2.2
  rw [h] at h2
  exact (Option.some.inj h2).symm
theorem vx_runVW {y : MethodName} {bytes cc : ByteArray} {maxL nL mc ms n index : Nat} {ret : Option FieldType} {hh : List (Nat × Nat × Nat × Nat)} {ws : List Cond} {rm : Room} {Pc : Array Value → State → Prop} {Qc : Array Value → State → Outcome → State → Prop} {free : Addr → Prop} {Ts : List Cond} {own C : String} {b : Addr} {As rest : List Value} {g : JFrame}
    (S : CallFix p m c cc nL s args Ts own) (hM : Met l y ws rm Pc Qc mc ms free) (cw : vx_CVW R s args own C index y bytes maxL ret hh ws rm mc ms n) (hp : PreV s H C b Pc As)
    (hg : g.method = m) (hn : As.length = n) (hsize : g.locals.size = nL) (hstack : g.stack = As.reverse ++ .ref b :: rest) (hW : 2 * g.monitorRoom + (rest.map fun v => v.category).sum ≤ 8) (hdg : decode cc g.pc = .ok (.invokevirtual index, 3)) (hf : cells + mc ≤ R.cells ∧ slots + ms ≤ R.slots) :
    va_Run p l e R s m args below meth c H locs cells slots mc ms g rest (Qc (Value.ref b :: As).toArray) free := by
  obtain ⟨⟨hrc, hrs, hfr, hlo, hws, hcw⟩, hcode, hini, hy, hlen, hl, hin, hse⟩ := cw
  have hK : Back l R p e below s args y 3 8 (PreOf R mc ms Pc) (PostOf Qc mc ms free) := va_backW (hh := hh) (bytes := bytes) (maxL := maxL) (ret := ret) hM hp.1 hrc hrs hfr hlo hws hcw (fun a' U hW => word_at hW (Or.inl (by first | rfl | simp [Cond.onTables, Cond.keeps, Cond.steady])) hini)
  obtain ⟨hx, hb, hml, ho, -⟩ := S
  obtain ⟨-, ⟨cellB, hcB, hoB, hclB⟩, hPc⟩ := hp
  intro T hT X
  obtain ⟨v, vm₁, ⟨U', l2, c2, s2⟩, hW₁, X', ⟨g', mk, t, L, e1, e2, hq, h1, hL, h2, h3⟩, st⟩ := vx_callVW X hx (C := C) (hh := hh) (bytes := bytes) (maxL := maxL) (ret := ret) ho hl hin hse hcode hy hK (by rw [hT]; exact hcB) hoB hclB hg (hsize.trans hml.symm) (argsL := As) (rest := rest) (fun sig h => hn.trans (hlen sig h)) hstack hW (by rw [hb]; exact hdg)
    (fun vm₁ hW₁ => ⟨hf.1, hf.2, hPc (T.setVm vm₁) hT hW₁⟩)
  dsimp only [Pt.U, Pt.locs, Pt.cells, Pt.slots] at X' e1 e2 h1 h2 h3 st
  subst h1; subst h2; subst h3
  exact ⟨v, (T.setVm vm₁).calling g' mk (Value.ref b :: As).toArray, t, U', L, hT, X', hL, e1, e2, hq, st⟩
section
variable {y : MethodName} {bytes cc : ByteArray} {maxL nL mc ms n index : Nat} {ret : Option FieldType} {ws : List Cond} {rm : Room} {Pc : Array Value → State → Prop} {Qc : Array Value → State → Outcome → State → Prop} {XC : String → State → State → Prop} {free : Addr → Prop} {Ts : List Cond} {own C : String} {b : Addr} {As rest : List Value} {g : JFrame}
theorem vx_runVX {hh : List (Nat × Nat × Nat × Nat)} (S : CallFix p m c cc nL s args Ts own) (hM : vx_Met l y ws rm Pc Qc XC mc ms free) (cw : vx_CVW R s args own C index y bytes maxL ret hh ws rm mc ms n) (hp : PreV s H C b Pc As)
    (hg : g.method = m) (hn : As.length = n) (hsize : g.locals.size = nL) (hstack : g.stack = As.reverse ++ .ref b :: rest) (hW : 2 * g.monitorRoom + (rest.map fun v => v.category).sum ≤ 8) (hdg : decode cc g.pc = .ok (.invokevirtual index, 3)) (hf : cells + mc ≤ R.cells ∧ slots + ms ≤ R.slots) :
    vx_Run p l e R s m args below meth c H locs cells slots mc ms g rest (Qc (Value.ref b :: As).toArray) XC free := by
  obtain ⟨⟨hrc, hrs, hfr, hlo, hws, hcw⟩, hcode, hini, hy, hlen, hl, hin, hse⟩ := cw
  have hK : vx_Back l R p e below s args y 3 8 (PreOf R mc ms Pc) (PostOf Qc mc ms free) (vx_Post XC mc ms free) := vx_backW (hh := hh) (bytes := bytes) (maxL := maxL) (ret := ret) hM hp.1 hrc hrs hfr hlo hws hcw (fun a' U hW => word_at hW (Or.inl (by first | rfl | simp [Cond.onTables, Cond.keeps, Cond.steady])) hini)
  obtain ⟨hx, hb, hml, ho, -⟩ := S
  obtain ⟨-, ⟨cellB, hcB, hoB, hclB⟩, hPc⟩ := hp
  intro T hT X
  rcases vx_callVX X hx (C := C) (hh := hh) (bytes := bytes) (maxL := maxL) (ret := ret) ho hl hin hse hcode hy hK (by rw [hT]; exact hcB) hoB hclB hg (hsize.trans hml.symm) (argsL := As) (rest := rest) (fun sig h => hn.trans (hlen sig h)) hstack hW (by rw [hb]; exact hdg)
    (fun vm₁ hW₁ => ⟨hf.1, hf.2, hPc (T.setVm vm₁) hT hW₁⟩) with ⟨v, vm₁, ⟨U', l2, c2, s2⟩, hW₁, X', ⟨g', mk, t, L, e1, e2, hq, h1, hL, h2, h3⟩, st⟩ | ⟨q, vm₁, ⟨U', l2, c2, s2⟩, hW₁, X', ⟨g', mk, t, L, E, ce, e1, e2, hq, hce, hcv, hcl, h1, hL, h2, h3⟩, st⟩
  · dsimp only [Pt.U, Pt.locs, Pt.cells, Pt.slots] at X' e1 e2 h1 h2 h3 st
    subst h1; subst h2; subst h3
    exact Or.inl ⟨v, (T.setVm vm₁).calling g' mk (Value.ref b :: As).toArray, t, U', L, hT, X', hL, e1, e2, hq, st⟩
  · dsimp only [Pt.U, Pt.locs, Pt.cells, Pt.slots] at X' e1 e2 h1 h2 h3 st hcl
    subst h1; subst h2; subst h3
    exact Or.inr ⟨q, (T.setVm vm₁).calling g' mk (Value.ref b :: As).toArray, t, U', L, E, ce, hT, X', hL, e1, e2, hq, hce, hcv, vx_cls hW₁ hcl, st⟩
theorem vx_runSX {hh : List (Nat × Nat × Nat × Nat)} (S : CallFix p m c cc nL s args Ts own) (hM : vx_Met l y ws rm Pc Qc XC mc ms free) (cw : vx_CSW R s args own index y bytes maxL ret hh ws rm mc ms n) (hp : PreS s H Pc As)
    (hg : g.method = m) (hn : As.length = n) (hsize : g.locals.size = nL) (hstack : g.stack = As.reverse ++ rest) (hW : 2 * g.monitorRoom + (rest.map fun v => v.category).sum ≤ 8) (hdg : decode cc g.pc = .ok (.invokestatic index, 3)) (hf : cells + mc ≤ R.cells ∧ slots + ms ≤ R.slots) :
    vx_Run p l e R s m args below meth c H locs cells slots mc ms g rest (Qc As.toArray) XC free := by
  obtain ⟨⟨hrc, hrs, hfr, hlo, hws, hcw⟩, hcode, hini, hy, hlen, hl, hstt⟩ := cw
  have hK : vx_Back l R p e below s args y 3 8 (PreOf R mc ms Pc) (PostOf Qc mc ms free) (vx_Post XC mc ms free) := vx_backW (hh := hh) (bytes := bytes) (maxL := maxL) (ret := ret) hM hp.1 hrc hrs hfr hlo hws hcw (fun a' U hW => word_at hW (Or.inl (by first | rfl | simp [Cond.onTables, Cond.keeps, Cond.steady])) hini)
  obtain ⟨hx, hb, hml, ho, -⟩ := S
  intro T hT X
  rcases vx_callSX X hx (hh := hh) (bytes := bytes) (maxL := maxL) (ret := ret) ho hl hstt hini hcode hy hK hg (hsize.trans hml.symm) (argsL := As) (rest := rest) (fun sig h => hn.trans (hlen sig h)) hstack hW (by rw [hb]; exact hdg)
    (fun vm₁ hW₁ => ⟨hf.1, hf.2, hp.2 (T.setVm vm₁) hT hW₁⟩) with ⟨v, vm₁, ⟨U', l2, c2, s2⟩, hW₁, X', ⟨g', mk, t, L, e1, e2, hq, h1, hL, h2, h3⟩, st⟩ | ⟨q, vm₁, ⟨U', l2, c2, s2⟩, hW₁, X', ⟨g', mk, t, L, E, ce, e1, e2, hq, hce, hcv, hcl, h1, hL, h2, h3⟩, st⟩
  · dsimp only [Pt.U, Pt.locs, Pt.cells, Pt.slots] at X' e1 e2 h1 h2 h3 st
    subst h1; subst h2; subst h3
    exact Or.inl ⟨v, (T.setVm vm₁).calling g' mk As.toArray, t, U', L, hT, X', hL, e1, e2, hq, st⟩
  · dsimp only [Pt.U, Pt.locs, Pt.cells, Pt.slots] at X' e1 e2 h1 h2 h3 st hcl
    subst h1; subst h2; subst h3
    exact Or.inr ⟨q, (T.setVm vm₁).calling g' mk As.toArray, t, U', L, E, ce, hT, X', hL, e1, e2, hq, hce, hcv, vx_cls hW₁ hcl, st⟩
end
end VXH
theorem vx_ofWH {l : Launch} {y : MethodName} {ws ws' : List Cond} {rm : Room} {Pc : Array Value → State → Prop} {Qc : Array Value → State → Outcome → State → Prop} {XC : String → State → State → Prop} {mc ms : Nat} {free : Addr → Prop} {cc : ByteArray} {maxL : Nat} {ret : Option FieldType} {hh : List (Nat × Nat × Nat × Nat)}
    (hy : plainName y.cls = true) (hw : ws = Cond.codeWith y cc maxL ret hh :: ws')
    (body : ∀ p e s m args below meth c s₁, BodyLoose p l y (headSpec ws rm) cc maxL ret e s m args below meth c s₁ → c.maxLocals = maxL → Pc args s →
      W p l e (headSpec ws rm).room s m args below meth c s.heap [] 0 0 (vx_MQ below Qc XC args s mc ms free) (entryFrame m args maxL)) : vx_Met l y ws rm Pc Qc XC mc ms free := by
  refine MetFree.of_bodyS (code := cc) (maxLocals := maxL) (ret := ret) hy ?_ ?_
  · intro args s m h hn
    obtain ⟨m9, meth, c, hn9, h1, h2, h3, h4, -, h5, h6, -⟩ := Cond.codeWith_spec (atoms_spec (ws := ws) h _ (by rw [hw]; exact List.mem_cons_self))
    cases hn.symm.trans hn9
    exact ⟨meth, c, h1, h2, h3, h4, h5, h6⟩
  · intro p e s m args below meth c s₁ B hml hP _
    have hh0 : s₁.heap = s.heap := by rw [B.state]; rfl
    obtain ⟨t, a1, o, b1, b2, b3⟩ := body p e s m args below meth c s₁ B hml hP s₁ hh0 (Stand.of_body B)
    exact ⟨t, o, a1, b1, b2, b3⟩
/-! ===== END ===== -/
end
section
/-! ===== BEGIN printed: names, fields, word lists, decode rows ===== -/
def RX0 : String := "Privacyledger"
def TX0 : u_T := fun k => match k with
  | 0 => ("Privacyledger", "today", "I", false)
  | 1 => ("Privacyledger", "purposeCount", "I", false)
  | 2 => ("Privacyledger", "retentionOfPurpose", "[I", true)
  | 3 => ("Privacyledger", "purposesWithoutConsent", "I", false)
  | 4 => ("Privacyledger", "consentsOfSubject", "[I", true)
  | 5 => ("Privacyledger", "consentDays", "[I", true)
  | 6 => ("Privacyledger", "recordCount", "I", false)
  | 7 => ("Privacyledger", "dayAdded", "[I", true)
  | 8 => ("Privacyledger", "purposesOfRecord", "[I", true)
  | 9 => ("Privacyledger", "subjectsOfRecord", "[I", true)
  | 10 => ("Privacyledger", "sourcesOfRecord", "[I", true)
  | 11 => ("Privacyledger", "useCounts", "[I", true)
  | 12 => ("Privacyledger", "presentRecords", "I", false)
  | 13 => ("Privacyledger", "requestedRecords", "I", false)
  | 14 => ("Privacyledger", "erasedRecords", "I", false)
  | _ => ("Privacyledger", "recordsOfCase", "[I", true)
def tyX0 : Nat → FieldType := fun k => match k with
  | 0 => .int
  | 1 => .int
  | 2 => .array .int
  | 3 => .int
  | 4 => .array .int
  | 5 => .array .int
  | 6 => .int
  | 7 => .array .int
  | 8 => .array .int
  | 9 => .array .int
  | 10 => .array .int
  | 11 => .array .int
  | 12 => .int
  | 13 => .int
  | 14 => .int
  | _ => .array .int
abbrev wsX00 : List Cond := u_ws RX0 TX0 16
theorem nmX0 : ∀ a, a < 16 → ∀ b, b < 16 → a ≠ b → (TX0 a).2.1 ≠ (TX0 b).2.1 := by decide +kernel
theorem tyX0_ok : ∀ k, k < 16 → parseFieldDescriptor (TX0 k).2.2.1 = some (tyX0 k) := by decide +kernel
abbrev cX0_init : ByteArray := prog_1_method_1_code
def yX0_init : MethodName := ⟨RX0, "<init>", "()V"⟩
abbrev cX0_addPurpose : ByteArray := prog_1_method_2_code
def yX0_addPurpose : MethodName := ⟨RX0, "addPurpose", "(IZ)I"⟩
abbrev cX0_setRetention : ByteArray := prog_1_method_3_code
def yX0_setRetention : MethodName := ⟨RX0, "setRetention", "(II)I"⟩
abbrev cX0_consent : ByteArray := prog_1_method_4_code
def yX0_consent : MethodName := ⟨RX0, "consent", "(IIZ)Z"⟩
abbrev cX0_consents : ByteArray := prog_1_method_5_code
def yX0_consents : MethodName := ⟨RX0, "consents", "(I)I"⟩
abbrev cX0_daysWithConsent : ByteArray := prog_1_method_6_code
def yX0_daysWithConsent : MethodName := ⟨RX0, "daysWithConsent", "(II)I"⟩
abbrev cX0_add : ByteArray := prog_1_method_7_code
def yX0_add : MethodName := ⟨RX0, "add", "(II)I"⟩
abbrev cX0_derive : ByteArray := prog_1_method_8_code
def yX0_derive : MethodName := ⟨RX0, "derive", "(II)I"⟩
abbrev cX0_addSource : ByteArray := prog_1_method_9_code
def yX0_addSource : MethodName := ⟨RX0, "addSource", "(II)I"⟩
abbrev cX0_records : ByteArray := prog_1_method_10_code
def yX0_records : MethodName := ⟨RX0, "records", "()I"⟩
abbrev cX0_stateOf : ByteArray := prog_1_method_11_code
def yX0_stateOf : MethodName := ⟨RX0, "stateOf", "(I)I"⟩
abbrev cX0_subjectsOf : ByteArray := prog_1_method_12_code
def yX0_subjectsOf : MethodName := ⟨RX0, "subjectsOf", "(I)I"⟩
abbrev cX0_below : ByteArray := prog_1_method_13_code
def yX0_below : MethodName := ⟨RX0, "below", "(I)I"⟩
abbrev cX0_endOf : ByteArray := prog_1_method_14_code
def yX0_endOf : MethodName := ⟨RX0, "endOf", "(I)I"⟩
abbrev cX0_whyNoUse : ByteArray := prog_1_method_15_code
def yX0_whyNoUse : MethodName := ⟨RX0, "whyNoUse", "(II)I"⟩
abbrev cX0_use : ByteArray := prog_1_method_16_code
def yX0_use : MethodName := ⟨RX0, "use", "(II)I"⟩
abbrev cX0_uses : ByteArray := prog_1_method_17_code
def yX0_uses : MethodName := ⟨RX0, "uses", "(II)I"⟩
abbrev cX0_passDays : ByteArray := prog_1_method_18_code
def yX0_passDays : MethodName := ⟨RX0, "passDays", "(I)I"⟩
abbrev cX0_day : ByteArray := prog_1_method_19_code
def yX0_day : MethodName := ⟨RX0, "day", "()I"⟩
abbrev cX0_nextEnd : ByteArray := prog_1_method_20_code
def yX0_nextEnd : MethodName := ⟨RX0, "nextEnd", "()I"⟩
abbrev cX0_hold : ByteArray := prog_1_method_21_code
def yX0_hold : MethodName := ⟨RX0, "hold", "(II)I"⟩
abbrev cX0_close : ByteArray := prog_1_method_22_code
def yX0_close : MethodName := ⟨RX0, "close", "(I)I"⟩
abbrev cX0_held : ByteArray := prog_1_method_23_code
def yX0_held : MethodName := ⟨RX0, "held", "()I"⟩
abbrev cX0_request : ByteArray := prog_1_method_24_code
def yX0_request : MethodName := ⟨RX0, "request", "(I)I"⟩
abbrev cX0_whyKept : ByteArray := prog_1_method_25_code
def yX0_whyKept : MethodName := ⟨RX0, "whyKept", "(I)I"⟩
abbrev cX0_erase : ByteArray := prog_1_method_26_code
def yX0_erase : MethodName := ⟨RX0, "erase", "()I"⟩
abbrev cX0_eraseAll : ByteArray := prog_1_method_27_code
def yX0_eraseAll : MethodName := ⟨RX0, "eraseAll", "()I"⟩
abbrev cX0_traces : ByteArray := prog_1_method_28_code
def yX0_traces : MethodName := ⟨RX0, "traces", "(I)I"⟩
abbrev cX0_tracesFromRoots : ByteArray := prog_1_method_29_code
def yX0_tracesFromRoots : MethodName := ⟨RX0, "tracesFromRoots", "(I)I"⟩
abbrev cX0_due : ByteArray := prog_1_method_30_code
def yX0_due : MethodName := ⟨RX0, "due", "()I"⟩
abbrev cX0_checkSubject : ByteArray := prog_1_method_31_code
def yX0_checkSubject : MethodName := ⟨RX0, "checkSubject", "(I)V"⟩
abbrev cX0_checkPurpose : ByteArray := prog_1_method_32_code
def yX0_checkPurpose : MethodName := ⟨RX0, "checkPurpose", "(I)V"⟩
abbrev cX0_checkPurposes : ByteArray := prog_1_method_33_code
def yX0_checkPurposes : MethodName := ⟨RX0, "checkPurposes", "(I)V"⟩
abbrev cX0_checkRetention : ByteArray := prog_1_method_34_code
def yX0_checkRetention : MethodName := ⟨RX0, "checkRetention", "(I)V"⟩
abbrev cX0_checkRecord : ByteArray := prog_1_method_35_code
def yX0_checkRecord : MethodName := ⟨RX0, "checkRecord", "(I)V"⟩
abbrev cX0_checkCase : ByteArray := prog_1_method_36_code
def yX0_checkCase : MethodName := ⟨RX0, "checkCase", "(I)V"⟩
abbrev cX0_bit : ByteArray := prog_1_method_37_code
def yX0_bit : MethodName := ⟨RX0, "bit", "(I)I"⟩
abbrev cX0_has : ByteArray := prog_1_method_38_code
def yX0_has : MethodName := ⟨RX0, "has", "(II)Z"⟩
abbrev cX0_allPurposes : ByteArray := prog_1_method_39_code
def yX0_allPurposes : MethodName := ⟨RX0, "allPurposes", "()I"⟩
abbrev cX0_consentIndex : ByteArray := prog_1_method_40_code
def yX0_consentIndex : MethodName := ⟨RX0, "consentIndex", "(II)I"⟩
abbrev cX0_useIndex : ByteArray := prog_1_method_41_code
def yX0_useIndex : MethodName := ⟨RX0, "useIndex", "(II)I"⟩
abbrev cX0_addRecord : ByteArray := prog_1_method_42_code
def yX0_addRecord : MethodName := ⟨RX0, "addRecord", "(III)I"⟩
abbrev cX0_addSubjects : ByteArray := prog_1_method_43_code
def yX0_addSubjects : MethodName := ⟨RX0, "addSubjects", "(II)V"⟩
abbrev cX0_isRoot : ByteArray := prog_1_method_44_code
def yX0_isRoot : MethodName := ⟨RX0, "isRoot", "(I)Z"⟩
abbrev cX0_recordsOf : ByteArray := prog_1_method_45_code
def yX0_recordsOf : MethodName := ⟨RX0, "recordsOf", "(I)I"⟩
abbrev cX0_rootsOf : ByteArray := prog_1_method_46_code
def yX0_rootsOf : MethodName := ⟨RX0, "rootsOf", "(I)I"⟩
abbrev cX0_withAllBelow : ByteArray := prog_1_method_47_code
def yX0_withAllBelow : MethodName := ⟨RX0, "withAllBelow", "(I)I"⟩
abbrev cX0_allBelow : ByteArray := prog_1_method_48_code
def yX0_allBelow : MethodName := ⟨RX0, "allBelow", "(I)I"⟩
abbrev cX0_purposesAllowedBy : ByteArray := prog_1_method_49_code
def yX0_purposesAllowedBy : MethodName := ⟨RX0, "purposesAllowedBy", "(I)I"⟩
abbrev cX0_isRetained : ByteArray := prog_1_method_50_code
def yX0_isRetained : MethodName := ⟨RX0, "isRetained", "(II)Z"⟩
abbrev cX0_isAnyOpen : ByteArray := prog_1_method_51_code
def yX0_isAnyOpen : MethodName := ⟨RX0, "isAnyOpen", "(III)Z"⟩
abbrev cX0_dueRecords : ByteArray := prog_1_method_52_code
def yX0_dueRecords : MethodName := ⟨RX0, "dueRecords", "()I"⟩
abbrev cX0_endNow : ByteArray := prog_1_method_53_code
def yX0_endNow : MethodName := ⟨RX0, "endNow", "(I)I"⟩
abbrev cX0_countDaysWithConsent : ByteArray := prog_1_method_54_code
def yX0_countDaysWithConsent : MethodName := ⟨RX0, "countDaysWithConsent", "(I)V"⟩
abbrev cX0_requestWithAllBelow : ByteArray := prog_1_method_55_code
def yX0_requestWithAllBelow : MethodName := ⟨RX0, "requestWithAllBelow", "(I)I"⟩
abbrev cX0_heldRecords : ByteArray := prog_1_method_56_code
def yX0_heldRecords : MethodName := ⟨RX0, "heldRecords", "()I"⟩
abbrev cX0_moveToErased : ByteArray := prog_1_method_57_code
def yX0_moveToErased : MethodName := ⟨RX0, "moveToErased", "(I)V"⟩
def RX1 : String := "PrivacyledgerModel"
def TX1 : u_T := fun k => match k with
  | 0 => ("PrivacyledgerModel", "thrown", "I", false)
  | 1 => ("PrivacyledgerModel", "today", "I", false)
  | 2 => ("PrivacyledgerModel", "purposes", "I", false)
  | 3 => ("PrivacyledgerModel", "retention", "[I", true)
  | 4 => ("PrivacyledgerModel", "needs", "[Z", true)
  | 5 => ("PrivacyledgerModel", "consented", "[I", true)
  | 6 => ("PrivacyledgerModel", "days", "[I", true)
  | 7 => ("PrivacyledgerModel", "many", "I", false)
  | 8 => ("PrivacyledgerModel", "root", "[I", true)
  | 9 => ("PrivacyledgerModel", "sources", "[I", true)
  | 10 => ("PrivacyledgerModel", "goals", "[I", true)
  | 11 => ("PrivacyledgerModel", "added", "[I", true)
  | 12 => ("PrivacyledgerModel", "state", "[I", true)
  | 13 => ("PrivacyledgerModel", "used", "[I", true)
  | _ => ("PrivacyledgerModel", "holds", "[I", true)
def tyX1 : Nat → FieldType := fun k => match k with
  | 0 => .int
  | 1 => .int
  | 2 => .int
  | 3 => .array .int
  | 4 => .array .boolean
  | 5 => .array .int
  | 6 => .array .int
  | 7 => .int
  | 8 => .array .int
  | 9 => .array .int
  | 10 => .array .int
  | 11 => .array .int
  | 12 => .array .int
  | 13 => .array .int
  | _ => .array .int
abbrev wsX10 : List Cond := u_ws RX1 TX1 15
theorem nmX1 : ∀ a, a < 15 → ∀ b, b < 15 → a ≠ b → (TX1 a).2.1 ≠ (TX1 b).2.1 := by decide +kernel
theorem tyX1_ok : ∀ k, k < 15 → parseFieldDescriptor (TX1 k).2.2.1 = some (tyX1 k) := by decide +kernel
abbrev cX1_init : ByteArray := prog_3_method_1_code
def yX1_init : MethodName := ⟨RX1, "<init>", "()V"⟩
abbrev cX1_thrown : ByteArray := prog_3_method_2_code
def yX1_thrown : MethodName := ⟨RX1, "thrown", "()I"⟩
abbrev cX1_fails : ByteArray := prog_3_method_3_code
def yX1_fails : MethodName := ⟨RX1, "fails", "(I)I"⟩
abbrev cX1_in : ByteArray := prog_3_method_4_code
def yX1_in : MethodName := ⟨RX1, "in", "(III)Z"⟩
abbrev cX1_has : ByteArray := prog_3_method_5_code
def yX1_has : MethodName := ⟨RX1, "has", "(II)Z"⟩
abbrev cX1_sizeOf : ByteArray := prog_3_method_6_code
def yX1_sizeOf : MethodName := ⟨RX1, "sizeOf", "(I)I"⟩
abbrev cX1_isSubject : ByteArray := prog_3_method_7_code
def yX1_isSubject : MethodName := ⟨RX1, "isSubject", "(I)Z"⟩
abbrev cX1_isPurpose : ByteArray := prog_3_method_8_code
def yX1_isPurpose : MethodName := ⟨RX1, "isPurpose", "(I)Z"⟩
abbrev cX1_isRecord : ByteArray := prog_3_method_9_code
def yX1_isRecord : MethodName := ⟨RX1, "isRecord", "(I)Z"⟩
abbrev cX1_isSet : ByteArray := prog_3_method_10_code
def yX1_isSet : MethodName := ⟨RX1, "isSet", "(I)Z"⟩
abbrev cX1_addPurpose : ByteArray := prog_3_method_11_code
def yX1_addPurpose : MethodName := ⟨RX1, "addPurpose", "(IZ)I"⟩
abbrev cX1_setRetention : ByteArray := prog_3_method_12_code
def yX1_setRetention : MethodName := ⟨RX1, "setRetention", "(II)I"⟩
abbrev cX1_consent : ByteArray := prog_3_method_13_code
def yX1_consent : MethodName := ⟨RX1, "consent", "(IIZ)Z"⟩
abbrev cX1_consents : ByteArray := prog_3_method_14_code
def yX1_consents : MethodName := ⟨RX1, "consents", "(I)I"⟩
abbrev cX1_daysWithConsent : ByteArray := prog_3_method_15_code
def yX1_daysWithConsent : MethodName := ⟨RX1, "daysWithConsent", "(II)I"⟩
abbrev cX1_subjects : ByteArray := prog_3_method_16_code
def yX1_subjects : MethodName := ⟨RX1, "subjects", "(I)I"⟩
abbrev cX1_aboveOf : ByteArray := prog_3_method_17_code
def yX1_aboveOf : MethodName := ⟨RX1, "aboveOf", "(I)I"⟩
abbrev cX1_belowOf : ByteArray := prog_3_method_18_code
def yX1_belowOf : MethodName := ⟨RX1, "belowOf", "(I)I"⟩
abbrev cX1_isAllowed : ByteArray := prog_3_method_19_code
def yX1_isAllowed : MethodName := ⟨RX1, "isAllowed", "(II)Z"⟩
abbrev cX1_endBy : ByteArray := prog_3_method_20_code
def yX1_endBy : MethodName := ⟨RX1, "endBy", "(III)I"⟩
abbrev cX1_end : ByteArray := prog_3_method_21_code
def yX1_end : MethodName := ⟨RX1, "end", "(I)I"⟩
abbrev cX1_lays : ByteArray := prog_3_method_22_code
def yX1_lays : MethodName := ⟨RX1, "lays", "(III)I"⟩
abbrev cX1_add : ByteArray := prog_3_method_23_code
def yX1_add : MethodName := ⟨RX1, "add", "(II)I"⟩
abbrev cX1_derive : ByteArray := prog_3_method_24_code
def yX1_derive : MethodName := ⟨RX1, "derive", "(II)I"⟩
abbrev cX1_addSource : ByteArray := prog_3_method_25_code
def yX1_addSource : MethodName := ⟨RX1, "addSource", "(II)I"⟩
abbrev cX1_records : ByteArray := prog_3_method_26_code
def yX1_records : MethodName := ⟨RX1, "records", "()I"⟩
abbrev cX1_stateOf : ByteArray := prog_3_method_27_code
def yX1_stateOf : MethodName := ⟨RX1, "stateOf", "(I)I"⟩
abbrev cX1_subjectsOf : ByteArray := prog_3_method_28_code
def yX1_subjectsOf : MethodName := ⟨RX1, "subjectsOf", "(I)I"⟩
abbrev cX1_below : ByteArray := prog_3_method_29_code
def yX1_below : MethodName := ⟨RX1, "below", "(I)I"⟩
abbrev cX1_endOf : ByteArray := prog_3_method_30_code
def yX1_endOf : MethodName := ⟨RX1, "endOf", "(I)I"⟩
abbrev cX1_reason : ByteArray := prog_3_method_31_code
def yX1_reason : MethodName := ⟨RX1, "reason", "(II)I"⟩
abbrev cX1_whyNoUse : ByteArray := prog_3_method_32_code
def yX1_whyNoUse : MethodName := ⟨RX1, "whyNoUse", "(II)I"⟩
abbrev cX1_use : ByteArray := prog_3_method_33_code
def yX1_use : MethodName := ⟨RX1, "use", "(II)I"⟩
abbrev cX1_uses : ByteArray := prog_3_method_34_code
def yX1_uses : MethodName := ⟨RX1, "uses", "(II)I"⟩
abbrev cX1_asks : ByteArray := prog_3_method_35_code
def yX1_asks : MethodName := ⟨RX1, "asks", "(I)I"⟩
abbrev cX1_dueSet : ByteArray := prog_3_method_36_code
def yX1_dueSet : MethodName := ⟨RX1, "dueSet", "()I"⟩
abbrev cX1_passDays : ByteArray := prog_3_method_37_code
def yX1_passDays : MethodName := ⟨RX1, "passDays", "(I)I"⟩
abbrev cX1_day : ByteArray := prog_3_method_38_code
def yX1_day : MethodName := ⟨RX1, "day", "()I"⟩
abbrev cX1_nextEnd : ByteArray := prog_3_method_39_code
def yX1_nextEnd : MethodName := ⟨RX1, "nextEnd", "()I"⟩
abbrev cX1_heldSet : ByteArray := prog_3_method_40_code
def yX1_heldSet : MethodName := ⟨RX1, "heldSet", "()I"⟩
abbrev cX1_hold : ByteArray := prog_3_method_41_code
def yX1_hold : MethodName := ⟨RX1, "hold", "(II)I"⟩
abbrev cX1_close : ByteArray := prog_3_method_42_code
def yX1_close : MethodName := ⟨RX1, "close", "(I)I"⟩
abbrev cX1_held : ByteArray := prog_3_method_43_code
def yX1_held : MethodName := ⟨RX1, "held", "()I"⟩
abbrev cX1_request : ByteArray := prog_3_method_44_code
def yX1_request : MethodName := ⟨RX1, "request", "(I)I"⟩
abbrev cX1_kept : ByteArray := prog_3_method_45_code
def yX1_kept : MethodName := ⟨RX1, "kept", "(I)I"⟩
abbrev cX1_whyKept : ByteArray := prog_3_method_46_code
def yX1_whyKept : MethodName := ⟨RX1, "whyKept", "(I)I"⟩
abbrev cX1_eraseOne : ByteArray := prog_3_method_47_code
def yX1_eraseOne : MethodName := ⟨RX1, "eraseOne", "()I"⟩
abbrev cX1_erase : ByteArray := prog_3_method_48_code
def yX1_erase : MethodName := ⟨RX1, "erase", "()I"⟩
abbrev cX1_eraseAll : ByteArray := prog_3_method_49_code
def yX1_eraseAll : MethodName := ⟨RX1, "eraseAll", "()I"⟩
abbrev cX1_tracesOf : ByteArray := prog_3_method_50_code
def yX1_tracesOf : MethodName := ⟨RX1, "tracesOf", "(I)I"⟩
abbrev cX1_traces : ByteArray := prog_3_method_51_code
def yX1_traces : MethodName := ⟨RX1, "traces", "(I)I"⟩
abbrev cX1_tracesFromRoots : ByteArray := prog_3_method_52_code
def yX1_tracesFromRoots : MethodName := ⟨RX1, "tracesFromRoots", "(I)I"⟩
abbrev cX1_due : ByteArray := prog_3_method_53_code
def yX1_due : MethodName := ⟨RX1, "due", "()I"⟩
def RJ6 : String := "java/lang/Integer"
def TJ6 : u_T := fun k => match k with
  | _ => ("", "", "", false)
def tyJ6 : Nat → FieldType := fun k => match k with
  | _ => .int
abbrev wsJ60 : List Cond := u_ws RJ6 TJ6 0
theorem nmJ6 : ∀ a, a < 0 → ∀ b, b < 0 → a ≠ b → (TJ6 a).2.1 ≠ (TJ6 b).2.1 := by decide +kernel
theorem tyJ6_ok : ∀ k, k < 0 → parseFieldDescriptor (TJ6 k).2.2.1 = some (tyJ6 k) := by decide +kernel
abbrev cJ6_bitCount_0f7a4 : ByteArray := prog_8_method_49_code
def yJ6_bitCount_0f7a4 : MethodName := ⟨RJ6, "bitCount", "(I)I"⟩
def RJ9 : String := "java/lang/Math"
def TJ9 : u_T := fun k => match k with
  | _ => ("", "", "", false)
def tyJ9 : Nat → FieldType := fun k => match k with
  | _ => .int
abbrev wsJ90 : List Cond := u_ws RJ9 TJ9 0
theorem nmJ9 : ∀ a, a < 0 → ∀ b, b < 0 → a ≠ b → (TJ9 a).2.1 ≠ (TJ9 b).2.1 := by decide +kernel
theorem tyJ9_ok : ∀ k, k < 0 → parseFieldDescriptor (TJ9 k).2.2.1 = some (tyJ9 k) := by decide +kernel
abbrev cJ9_max_7cf53 : ByteArray := prog_9_method_65_code
def yJ9_max_7cf53 : MethodName := ⟨RJ9, "max", "(II)I"⟩
abbrev cJ9_min_7cf53 : ByteArray := prog_9_method_69_code
def yJ9_min_7cf53 : MethodName := ⟨RJ9, "min", "(II)I"⟩
def RJ0 : String := "java/lang/String"
def TJ0 : u_T := fun k => match k with
  | _ => ("", "", "", false)
def tyJ0 : Nat → FieldType := fun k => match k with
  | _ => .int
abbrev wsJ00 : List Cond := u_ws RJ0 TJ0 0
theorem nmJ0 : ∀ a, a < 0 → ∀ b, b < 0 → a ≠ b → (TJ0 a).2.1 ≠ (TJ0 b).2.1 := by decide +kernel
theorem tyJ0_ok : ∀ k, k < 0 → parseFieldDescriptor (TJ0 k).2.2.1 = some (tyJ0 k) := by decide +kernel
def RL : String := "PrivacyledgerLaw"
abbrev cL_addPurpose : ByteArray := method_3_code
def yL_addPurpose : MethodName := ⟨RL, "addPurpose", "(LPrivacyledger;IZ[J)I"⟩
abbrev cL_setRetention : ByteArray := method_4_code
def yL_setRetention : MethodName := ⟨RL, "setRetention", "(LPrivacyledger;II[J)I"⟩
abbrev cL_consent : ByteArray := method_5_code
def yL_consent : MethodName := ⟨RL, "consent", "(LPrivacyledger;IIZ[J)I"⟩
abbrev cL_consents : ByteArray := method_6_code
def yL_consents : MethodName := ⟨RL, "consents", "(LPrivacyledger;I[J)I"⟩
abbrev cL_daysWithConsent : ByteArray := method_7_code
def yL_daysWithConsent : MethodName := ⟨RL, "daysWithConsent", "(LPrivacyledger;II[J)I"⟩
abbrev cL_add : ByteArray := method_8_code
def yL_add : MethodName := ⟨RL, "add", "(LPrivacyledger;II[J)I"⟩
abbrev cL_derive : ByteArray := method_9_code
def yL_derive : MethodName := ⟨RL, "derive", "(LPrivacyledger;II[J)I"⟩
abbrev cL_addSource : ByteArray := method_10_code
def yL_addSource : MethodName := ⟨RL, "addSource", "(LPrivacyledger;II[J)I"⟩
abbrev cL_stateOf : ByteArray := method_11_code
def yL_stateOf : MethodName := ⟨RL, "stateOf", "(LPrivacyledger;I[J)I"⟩
abbrev cL_subjectsOf : ByteArray := method_12_code
def yL_subjectsOf : MethodName := ⟨RL, "subjectsOf", "(LPrivacyledger;I[J)I"⟩
abbrev cL_below : ByteArray := method_13_code
def yL_below : MethodName := ⟨RL, "below", "(LPrivacyledger;I[J)I"⟩
abbrev cL_endOf : ByteArray := method_14_code
def yL_endOf : MethodName := ⟨RL, "endOf", "(LPrivacyledger;I[J)I"⟩
abbrev cL_whyNoUse : ByteArray := method_15_code
def yL_whyNoUse : MethodName := ⟨RL, "whyNoUse", "(LPrivacyledger;II[J)I"⟩
abbrev cL_use : ByteArray := method_16_code
def yL_use : MethodName := ⟨RL, "use", "(LPrivacyledger;II[J)I"⟩
abbrev cL_uses : ByteArray := method_17_code
def yL_uses : MethodName := ⟨RL, "uses", "(LPrivacyledger;II[J)I"⟩
abbrev cL_passDays : ByteArray := method_18_code
def yL_passDays : MethodName := ⟨RL, "passDays", "(LPrivacyledger;I[J)I"⟩
abbrev cL_hold : ByteArray := method_19_code
def yL_hold : MethodName := ⟨RL, "hold", "(LPrivacyledger;II[J)I"⟩
abbrev cL_close : ByteArray := method_20_code
def yL_close : MethodName := ⟨RL, "close", "(LPrivacyledger;I[J)I"⟩
abbrev cL_request : ByteArray := method_21_code
def yL_request : MethodName := ⟨RL, "request", "(LPrivacyledger;I[J)I"⟩
abbrev cL_whyKept : ByteArray := method_22_code
def yL_whyKept : MethodName := ⟨RL, "whyKept", "(LPrivacyledger;I[J)I"⟩
abbrev cL_traces : ByteArray := method_23_code
def yL_traces : MethodName := ⟨RL, "traces", "(LPrivacyledger;I[J)I"⟩
abbrev cL_tracesFromRoots : ByteArray := method_24_code
def yL_tracesFromRoots : MethodName := ⟨RL, "tracesFromRoots", "(LPrivacyledger;I[J)I"⟩
abbrev cL_law : ByteArray := code
def yL_law : MethodName := ⟨RL, "law", "([I)Z"⟩
def wsX0_init : List Cond := .code yX0_init cX0_init 1 none :: ([.methodLink RX0 1 objectInit, .instanceMethod objectInit, .code objectInit ⟨#[0xb1]⟩ 1 none, .arrayClass .int, .fieldLink RX0 9 "Privacyledger" "retentionOfPurpose" "[I", .fieldLink RX0 13 "Privacyledger" "consentsOfSubject" "[I", .fieldLink RX0 16 "Privacyledger" "consentDays" "[I", .fieldLink RX0 19 "Privacyledger" "dayAdded" "[I", .fieldLink RX0 22 "Privacyledger" "purposesOfRecord" "[I", .fieldLink RX0 25 "Privacyledger" "subjectsOfRecord" "[I", .fieldLink RX0 28 "Privacyledger" "sourcesOfRecord" "[I", .fieldLink RX0 31 "Privacyledger" "useCounts" "[I", .fieldLink RX0 34 "Privacyledger" "recordsOfCase" "[I"] ++ wsX00)
def wsX0_checkRetention : List Cond := .code yX0_checkRetention cX0_checkRetention 2 none :: ([.classLink RX0 88 "java/lang/IllegalArgumentException", .initialized "java/lang/IllegalArgumentException"] ++ (vx_atS RX0 92 "java/lang/IllegalArgumentException" ["java/lang/RuntimeException", "java/lang/Exception"]).filter goodWord)
def wsX0_bit : List Cond := .code yX0_bit cX0_bit 1 (some .int) :: ([])
def wsX0_addPurpose : List Cond := .code yX0_addPurpose cX0_addPurpose 4 (some .int) :: ([.classLink RX0 45 "java/lang/IllegalStateException", .initialized "java/lang/IllegalStateException", .fieldLink RX0 41 "Privacyledger" "purposeCount" "I", .fieldLink RX0 9 "Privacyledger" "retentionOfPurpose" "[I", .fieldLink RX0 52 "Privacyledger" "purposesWithoutConsent" "I", .methodLink RX0 37 yX0_checkRetention, .instanceMethod yX0_checkRetention, .selects RX0 yX0_checkRetention yX0_checkRetention, .initialized RX0, .code yX0_checkRetention cX0_checkRetention 2 none, .classLink RX0 88 "java/lang/IllegalArgumentException", .initialized "java/lang/IllegalArgumentException", .methodLink RX0 55 yX0_bit, .static yX0_bit, .code yX0_bit cX0_bit 1 (some .int)] ++ wsX00 ++ (vx_atS RX0 49 "java/lang/IllegalStateException" ["java/lang/RuntimeException", "java/lang/Exception"]).filter goodWord ++ (vx_atS RX0 92 "java/lang/IllegalArgumentException" ["java/lang/RuntimeException", "java/lang/Exception"]).filter goodWord)
def wsX0_checkPurpose : List Cond := .code yX0_checkPurpose cX0_checkPurpose 2 none :: ([.classLink RX0 186 "java/lang/IndexOutOfBoundsException", .initialized "java/lang/IndexOutOfBoundsException", .fieldLink RX0 41 "Privacyledger" "purposeCount" "I"] ++ wsX00 ++ (vx_atS RX0 190 "java/lang/IndexOutOfBoundsException" ["java/lang/RuntimeException", "java/lang/Exception"]).filter goodWord)
def wsX0_setRetention : List Cond := .code yX0_setRetention cX0_setRetention 4 (some .int) :: ([.fieldLink RX0 9 "Privacyledger" "retentionOfPurpose" "[I", .methodLink RX0 59 yX0_checkPurpose, .instanceMethod yX0_checkPurpose, .selects RX0 yX0_checkPurpose yX0_checkPurpose, .initialized RX0, .code yX0_checkPurpose cX0_checkPurpose 2 none, .classLink RX0 186 "java/lang/IndexOutOfBoundsException", .initialized "java/lang/IndexOutOfBoundsException", .fieldLink RX0 41 "Privacyledger" "purposeCount" "I", .methodLink RX0 37 yX0_checkRetention, .instanceMethod yX0_checkRetention, .selects RX0 yX0_checkRetention yX0_checkRetention, .code yX0_checkRetention cX0_checkRetention 2 none, .classLink RX0 88 "java/lang/IllegalArgumentException", .initialized "java/lang/IllegalArgumentException"] ++ wsX00 ++ (vx_atS RX0 190 "java/lang/IndexOutOfBoundsException" ["java/lang/RuntimeException", "java/lang/Exception"]).filter goodWord ++ (vx_atS RX0 92 "java/lang/IllegalArgumentException" ["java/lang/RuntimeException", "java/lang/Exception"]).filter goodWord)
def wsX0_checkSubject : List Cond := .code yX0_checkSubject cX0_checkSubject 2 none :: ([.classLink RX0 186 "java/lang/IndexOutOfBoundsException", .initialized "java/lang/IndexOutOfBoundsException"] ++ (vx_atS RX0 190 "java/lang/IndexOutOfBoundsException" ["java/lang/RuntimeException", "java/lang/Exception"]).filter goodWord)
def wsX0_has : List Cond := .code yX0_has cX0_has 2 (some .boolean) :: ([.methodLink RX0 55 yX0_bit, .static yX0_bit, .initialized RX0, .code yX0_bit cX0_bit 1 (some .int)])
def wsX0_consent : List Cond := .code yX0_consent cX0_consent 4 (some .boolean) :: ([.fieldLink RX0 13 "Privacyledger" "consentsOfSubject" "[I", .methodLink RX0 62 yX0_checkSubject, .instanceMethod yX0_checkSubject, .selects RX0 yX0_checkSubject yX0_checkSubject, .initialized RX0, .code yX0_checkSubject cX0_checkSubject 2 none, .classLink RX0 186 "java/lang/IndexOutOfBoundsException", .initialized "java/lang/IndexOutOfBoundsException", .methodLink RX0 59 yX0_checkPurpose, .instanceMethod yX0_checkPurpose, .selects RX0 yX0_checkPurpose yX0_checkPurpose, .code yX0_checkPurpose cX0_checkPurpose 2 none, .fieldLink RX0 41 "Privacyledger" "purposeCount" "I", .methodLink RX0 65 yX0_has, .static yX0_has, .code yX0_has cX0_has 2 (some .boolean), .methodLink RX0 55 yX0_bit, .static yX0_bit, .code yX0_bit cX0_bit 1 (some .int)] ++ wsX00 ++ (vx_atS RX0 190 "java/lang/IndexOutOfBoundsException" ["java/lang/RuntimeException", "java/lang/Exception"]).filter goodWord)
def wsX0_consents : List Cond := .code yX0_consents cX0_consents 2 (some .int) :: ([.fieldLink RX0 13 "Privacyledger" "consentsOfSubject" "[I", .methodLink RX0 62 yX0_checkSubject, .instanceMethod yX0_checkSubject, .selects RX0 yX0_checkSubject yX0_checkSubject, .initialized RX0, .code yX0_checkSubject cX0_checkSubject 2 none, .classLink RX0 186 "java/lang/IndexOutOfBoundsException", .initialized "java/lang/IndexOutOfBoundsException"] ++ wsX00 ++ (vx_atS RX0 190 "java/lang/IndexOutOfBoundsException" ["java/lang/RuntimeException", "java/lang/Exception"]).filter goodWord)
def wsX0_consentIndex : List Cond := .code yX0_consentIndex cX0_consentIndex 2 (some .int) :: ([])
def wsX0_daysWithConsent : List Cond := .code yX0_daysWithConsent cX0_daysWithConsent 3 (some .int) :: ([.fieldLink RX0 16 "Privacyledger" "consentDays" "[I", .methodLink RX0 62 yX0_checkSubject, .instanceMethod yX0_checkSubject, .selects RX0 yX0_checkSubject yX0_checkSubject, .initialized RX0, .code yX0_checkSubject cX0_checkSubject 2 none, .classLink RX0 186 "java/lang/IndexOutOfBoundsException", .initialized "java/lang/IndexOutOfBoundsException", .methodLink RX0 59 yX0_checkPurpose, .instanceMethod yX0_checkPurpose, .selects RX0 yX0_checkPurpose yX0_checkPurpose, .code yX0_checkPurpose cX0_checkPurpose 2 none, .fieldLink RX0 41 "Privacyledger" "purposeCount" "I", .methodLink RX0 69 yX0_consentIndex, .static yX0_consentIndex, .code yX0_consentIndex cX0_consentIndex 2 (some .int)] ++ wsX00 ++ (vx_atS RX0 190 "java/lang/IndexOutOfBoundsException" ["java/lang/RuntimeException", "java/lang/Exception"]).filter goodWord)
def wsX0_allPurposes : List Cond := .code yX0_allPurposes cX0_allPurposes 1 (some .int) :: ([.fieldLink RX0 41 "Privacyledger" "purposeCount" "I", .methodLink RX0 55 yX0_bit, .static yX0_bit, .initialized RX0, .code yX0_bit cX0_bit 1 (some .int)] ++ wsX00)
def wsX0_checkPurposes : List Cond := .code yX0_checkPurposes cX0_checkPurposes 2 none :: ([.classLink RX0 186 "java/lang/IndexOutOfBoundsException", .initialized "java/lang/IndexOutOfBoundsException", .classLink RX0 88 "java/lang/IllegalArgumentException", .initialized "java/lang/IllegalArgumentException", .methodLink RX0 193 yX0_allPurposes, .instanceMethod yX0_allPurposes, .selects RX0 yX0_allPurposes yX0_allPurposes, .initialized RX0, .code yX0_allPurposes cX0_allPurposes 1 (some .int), .fieldLink RX0 41 "Privacyledger" "purposeCount" "I", .methodLink RX0 55 yX0_bit, .static yX0_bit, .code yX0_bit cX0_bit 1 (some .int)] ++ wsX00 ++ (vx_atS RX0 190 "java/lang/IndexOutOfBoundsException" ["java/lang/RuntimeException", "java/lang/Exception"]).filter goodWord ++ (vx_atS RX0 92 "java/lang/IllegalArgumentException" ["java/lang/RuntimeException", "java/lang/Exception"]).filter goodWord)
def wsX0_purposesAllowedBy : List Cond := .code yX0_purposesAllowedBy cX0_purposesAllowedBy 4 (some .int) :: ([.fieldLink RX0 13 "Privacyledger" "consentsOfSubject" "[I", .fieldLink RX0 52 "Privacyledger" "purposesWithoutConsent" "I", .methodLink RX0 193 yX0_allPurposes, .instanceMethod yX0_allPurposes, .selects RX0 yX0_allPurposes yX0_allPurposes, .initialized RX0, .code yX0_allPurposes cX0_allPurposes 1 (some .int), .fieldLink RX0 41 "Privacyledger" "purposeCount" "I", .methodLink RX0 55 yX0_bit, .static yX0_bit, .code yX0_bit cX0_bit 1 (some .int), .methodLink RX0 65 yX0_has, .static yX0_has, .code yX0_has cX0_has 2 (some .boolean)] ++ wsX00)
def wsX0_isRetained : List Cond := .code yX0_isRetained cX0_isRetained 3 (some .boolean) :: ([.fieldLink RX0 149 "Privacyledger" "today" "I", .fieldLink RX0 9 "Privacyledger" "retentionOfPurpose" "[I"] ++ wsX00)
def wsX0_isAnyOpen : List Cond := .code yX0_isAnyOpen cX0_isAnyOpen 6 (some .boolean) :: ([.fieldLink RX0 41 "Privacyledger" "purposeCount" "I", .methodLink RX0 130 yX0_purposesAllowedBy, .instanceMethod yX0_purposesAllowedBy, .selects RX0 yX0_purposesAllowedBy yX0_purposesAllowedBy, .initialized RX0, .code yX0_purposesAllowedBy cX0_purposesAllowedBy 4 (some .int), .fieldLink RX0 13 "Privacyledger" "consentsOfSubject" "[I", .fieldLink RX0 52 "Privacyledger" "purposesWithoutConsent" "I", .methodLink RX0 193 yX0_allPurposes, .instanceMethod yX0_allPurposes, .selects RX0 yX0_allPurposes yX0_allPurposes, .code yX0_allPurposes cX0_allPurposes 1 (some .int), .methodLink RX0 55 yX0_bit, .static yX0_bit, .code yX0_bit cX0_bit 1 (some .int), .methodLink RX0 65 yX0_has, .static yX0_has, .code yX0_has cX0_has 2 (some .boolean), .methodLink RX0 133 yX0_isRetained, .instanceMethod yX0_isRetained, .selects RX0 yX0_isRetained yX0_isRetained, .code yX0_isRetained cX0_isRetained 3 (some .boolean), .fieldLink RX0 149 "Privacyledger" "today" "I", .fieldLink RX0 9 "Privacyledger" "retentionOfPurpose" "[I"] ++ wsX00)
def wsX0_addRecord_r1 : List Cond := [Cond.classLink RX0 45 "java/lang/IllegalStateException", Cond.initialized "java/lang/IllegalStateException", Cond.fieldLink RX0 115 "Privacyledger" "recordCount" "I", Cond.fieldLink RX0 149 "Privacyledger" "today" "I", Cond.fieldLink RX0 19 "Privacyledger" "dayAdded" "[I", Cond.fieldLink RX0 22 "Privacyledger" "purposesOfRecord" "[I", Cond.fieldLink RX0 25 "Privacyledger" "subjectsOfRecord" "[I", Cond.fieldLink RX0 28 "Privacyledger" "sourcesOfRecord" "[I", Cond.fieldLink RX0 83 "Privacyledger" "presentRecords" "I", Cond.methodLink RX0 208 yX0_isAnyOpen, Cond.instanceMethod yX0_isAnyOpen, Cond.selects RX0 yX0_isAnyOpen yX0_isAnyOpen, Cond.initialized RX0, Cond.code yX0_isAnyOpen cX0_isAnyOpen 6 (some .boolean), Cond.fieldLink RX0 41 "Privacyledger" "purposeCount" "I", Cond.methodLink RX0 130 yX0_purposesAllowedBy, Cond.instanceMethod yX0_purposesAllowedBy, Cond.selects RX0 yX0_purposesAllowedBy yX0_purposesAllowedBy, Cond.code yX0_purposesAllowedBy cX0_purposesAllowedBy 4 (some .int), Cond.fieldLink RX0 13 "Privacyledger" "consentsOfSubject" "[I", Cond.fieldLink RX0 52 "Privacyledger" "purposesWithoutConsent" "I", Cond.methodLink RX0 193 yX0_allPurposes, Cond.instanceMethod yX0_allPurposes, Cond.selects RX0 yX0_allPurposes yX0_allPurposes]
def wsX0_addRecord_r2 : List Cond := [Cond.code yX0_allPurposes cX0_allPurposes 1 (some .int), Cond.methodLink RX0 55 yX0_bit, Cond.static yX0_bit, Cond.code yX0_bit cX0_bit 1 (some .int), Cond.methodLink RX0 65 yX0_has, Cond.static yX0_has, Cond.code yX0_has cX0_has 2 (some .boolean), Cond.methodLink RX0 133 yX0_isRetained, Cond.instanceMethod yX0_isRetained, Cond.selects RX0 yX0_isRetained yX0_isRetained, Cond.code yX0_isRetained cX0_isRetained 3 (some .boolean), Cond.fieldLink RX0 9 "Privacyledger" "retentionOfPurpose" "[I"]
def wsX0_addRecord : List Cond := .code yX0_addRecord cX0_addRecord 5 (some .int) :: ((wsX0_addRecord_r1 ++ wsX0_addRecord_r2) ++ wsX00 ++ (vx_atS RX0 49 "java/lang/IllegalStateException" ["java/lang/RuntimeException", "java/lang/Exception"]).filter goodWord)
def wsX0_add_r1 : List Cond := [Cond.methodLink RX0 62 yX0_checkSubject, Cond.instanceMethod yX0_checkSubject, Cond.selects RX0 yX0_checkSubject yX0_checkSubject, Cond.initialized RX0, Cond.code yX0_checkSubject cX0_checkSubject 2 none, Cond.classLink RX0 186 "java/lang/IndexOutOfBoundsException", Cond.initialized "java/lang/IndexOutOfBoundsException", Cond.methodLink RX0 73 yX0_checkPurposes, Cond.instanceMethod yX0_checkPurposes, Cond.selects RX0 yX0_checkPurposes yX0_checkPurposes, Cond.code yX0_checkPurposes cX0_checkPurposes 2 none, Cond.classLink RX0 88 "java/lang/IllegalArgumentException", Cond.initialized "java/lang/IllegalArgumentException", Cond.methodLink RX0 193 yX0_allPurposes, Cond.instanceMethod yX0_allPurposes, Cond.selects RX0 yX0_allPurposes yX0_allPurposes, Cond.code yX0_allPurposes cX0_allPurposes 1 (some .int), Cond.fieldLink RX0 41 "Privacyledger" "purposeCount" "I", Cond.methodLink RX0 55 yX0_bit, Cond.static yX0_bit, Cond.code yX0_bit cX0_bit 1 (some .int), Cond.methodLink RX0 76 yX0_addRecord, Cond.instanceMethod yX0_addRecord, Cond.selects RX0 yX0_addRecord yX0_addRecord]
def wsX0_add_r2 : List Cond := [Cond.code yX0_addRecord cX0_addRecord 5 (some .int), Cond.classLink RX0 45 "java/lang/IllegalStateException", Cond.initialized "java/lang/IllegalStateException", Cond.fieldLink RX0 115 "Privacyledger" "recordCount" "I", Cond.fieldLink RX0 149 "Privacyledger" "today" "I", Cond.fieldLink RX0 19 "Privacyledger" "dayAdded" "[I", Cond.fieldLink RX0 22 "Privacyledger" "purposesOfRecord" "[I", Cond.fieldLink RX0 25 "Privacyledger" "subjectsOfRecord" "[I", Cond.fieldLink RX0 28 "Privacyledger" "sourcesOfRecord" "[I", Cond.fieldLink RX0 83 "Privacyledger" "presentRecords" "I", Cond.methodLink RX0 208 yX0_isAnyOpen, Cond.instanceMethod yX0_isAnyOpen, Cond.selects RX0 yX0_isAnyOpen yX0_isAnyOpen, Cond.code yX0_isAnyOpen cX0_isAnyOpen 6 (some .boolean), Cond.methodLink RX0 130 yX0_purposesAllowedBy, Cond.instanceMethod yX0_purposesAllowedBy, Cond.selects RX0 yX0_purposesAllowedBy yX0_purposesAllowedBy, Cond.code yX0_purposesAllowedBy cX0_purposesAllowedBy 4 (some .int), Cond.fieldLink RX0 13 "Privacyledger" "consentsOfSubject" "[I", Cond.fieldLink RX0 52 "Privacyledger" "purposesWithoutConsent" "I", Cond.methodLink RX0 65 yX0_has, Cond.static yX0_has, Cond.code yX0_has cX0_has 2 (some .boolean), Cond.methodLink RX0 133 yX0_isRetained]
def wsX0_add_r3 : List Cond := [Cond.instanceMethod yX0_isRetained, Cond.selects RX0 yX0_isRetained yX0_isRetained, Cond.code yX0_isRetained cX0_isRetained 3 (some .boolean), Cond.fieldLink RX0 9 "Privacyledger" "retentionOfPurpose" "[I"]
def wsX0_add : List Cond := .code yX0_add cX0_add 3 (some .int) :: ((wsX0_add_r1 ++ (wsX0_add_r2 ++ wsX0_add_r3)) ++ wsX00 ++ (vx_atS RX0 190 "java/lang/IndexOutOfBoundsException" ["java/lang/RuntimeException", "java/lang/Exception"]).filter goodWord ++ (vx_atS RX0 92 "java/lang/IllegalArgumentException" ["java/lang/RuntimeException", "java/lang/Exception"]).filter goodWord ++ (vx_atS RX0 49 "java/lang/IllegalStateException" ["java/lang/RuntimeException", "java/lang/Exception"]).filter goodWord)
def wsX0_checkRecord : List Cond := .code yX0_checkRecord cX0_checkRecord 2 none :: ([.classLink RX0 186 "java/lang/IndexOutOfBoundsException", .initialized "java/lang/IndexOutOfBoundsException", .fieldLink RX0 115 "Privacyledger" "recordCount" "I"] ++ wsX00 ++ (vx_atS RX0 190 "java/lang/IndexOutOfBoundsException" ["java/lang/RuntimeException", "java/lang/Exception"]).filter goodWord)
def wsX0_derive_r1 : List Cond := [Cond.classLink RX0 45 "java/lang/IllegalStateException", Cond.initialized "java/lang/IllegalStateException", Cond.fieldLink RX0 83 "Privacyledger" "presentRecords" "I", Cond.fieldLink RX0 25 "Privacyledger" "subjectsOfRecord" "[I", Cond.methodLink RX0 80 yX0_checkRecord, Cond.instanceMethod yX0_checkRecord, Cond.selects RX0 yX0_checkRecord yX0_checkRecord, Cond.initialized RX0, Cond.code yX0_checkRecord cX0_checkRecord 2 none, Cond.classLink RX0 186 "java/lang/IndexOutOfBoundsException", Cond.initialized "java/lang/IndexOutOfBoundsException", Cond.fieldLink RX0 115 "Privacyledger" "recordCount" "I", Cond.methodLink RX0 73 yX0_checkPurposes, Cond.instanceMethod yX0_checkPurposes, Cond.selects RX0 yX0_checkPurposes yX0_checkPurposes, Cond.code yX0_checkPurposes cX0_checkPurposes 2 none, Cond.classLink RX0 88 "java/lang/IllegalArgumentException", Cond.initialized "java/lang/IllegalArgumentException", Cond.methodLink RX0 193 yX0_allPurposes, Cond.instanceMethod yX0_allPurposes, Cond.selects RX0 yX0_allPurposes yX0_allPurposes, Cond.code yX0_allPurposes cX0_allPurposes 1 (some .int), Cond.fieldLink RX0 41 "Privacyledger" "purposeCount" "I", Cond.methodLink RX0 55 yX0_bit]
def wsX0_derive_r2 : List Cond := [Cond.static yX0_bit, Cond.code yX0_bit cX0_bit 1 (some .int), Cond.methodLink RX0 65 yX0_has, Cond.static yX0_has, Cond.code yX0_has cX0_has 2 (some .boolean), Cond.methodLink RX0 76 yX0_addRecord, Cond.instanceMethod yX0_addRecord, Cond.selects RX0 yX0_addRecord yX0_addRecord, Cond.code yX0_addRecord cX0_addRecord 5 (some .int), Cond.fieldLink RX0 149 "Privacyledger" "today" "I", Cond.fieldLink RX0 19 "Privacyledger" "dayAdded" "[I", Cond.fieldLink RX0 22 "Privacyledger" "purposesOfRecord" "[I", Cond.fieldLink RX0 28 "Privacyledger" "sourcesOfRecord" "[I", Cond.methodLink RX0 208 yX0_isAnyOpen, Cond.instanceMethod yX0_isAnyOpen, Cond.selects RX0 yX0_isAnyOpen yX0_isAnyOpen, Cond.code yX0_isAnyOpen cX0_isAnyOpen 6 (some .boolean), Cond.methodLink RX0 130 yX0_purposesAllowedBy, Cond.instanceMethod yX0_purposesAllowedBy, Cond.selects RX0 yX0_purposesAllowedBy yX0_purposesAllowedBy, Cond.code yX0_purposesAllowedBy cX0_purposesAllowedBy 4 (some .int), Cond.fieldLink RX0 13 "Privacyledger" "consentsOfSubject" "[I", Cond.fieldLink RX0 52 "Privacyledger" "purposesWithoutConsent" "I", Cond.methodLink RX0 133 yX0_isRetained]
def wsX0_derive_r3 : List Cond := [Cond.instanceMethod yX0_isRetained, Cond.selects RX0 yX0_isRetained yX0_isRetained, Cond.code yX0_isRetained cX0_isRetained 3 (some .boolean), Cond.fieldLink RX0 9 "Privacyledger" "retentionOfPurpose" "[I"]
def wsX0_derive : List Cond := .code yX0_derive cX0_derive 3 (some .int) :: ((wsX0_derive_r1 ++ (wsX0_derive_r2 ++ wsX0_derive_r3)) ++ wsX00 ++ (vx_atS RX0 49 "java/lang/IllegalStateException" ["java/lang/RuntimeException", "java/lang/Exception"]).filter goodWord ++ (vx_atS RX0 190 "java/lang/IndexOutOfBoundsException" ["java/lang/RuntimeException", "java/lang/Exception"]).filter goodWord ++ (vx_atS RX0 92 "java/lang/IllegalArgumentException" ["java/lang/RuntimeException", "java/lang/Exception"]).filter goodWord)
def wsX0_isRoot : List Cond := .code yX0_isRoot cX0_isRoot 2 (some .boolean) :: ([.fieldLink RX0 28 "Privacyledger" "sourcesOfRecord" "[I"] ++ wsX00)
def wsX0_withAllBelow : List Cond := .code yX0_withAllBelow cX0_withAllBelow 4 (some .int) :: ([.fieldLink RX0 115 "Privacyledger" "recordCount" "I", .fieldLink RX0 28 "Privacyledger" "sourcesOfRecord" "[I", .methodLink RX0 55 yX0_bit, .static yX0_bit, .initialized RX0, .code yX0_bit cX0_bit 1 (some .int)] ++ wsX00)
def wsX0_addSubjects : List Cond := .code yX0_addSubjects cX0_addSubjects 4 none :: ([.fieldLink RX0 115 "Privacyledger" "recordCount" "I", .fieldLink RX0 25 "Privacyledger" "subjectsOfRecord" "[I", .methodLink RX0 65 yX0_has, .static yX0_has, .initialized RX0, .code yX0_has cX0_has 2 (some .boolean), .methodLink RX0 55 yX0_bit, .static yX0_bit, .code yX0_bit cX0_bit 1 (some .int)] ++ wsX00)
def wsJ6_bitCount_0f7a4 : List Cond := .code yJ6_bitCount_0f7a4 cJ6_bitCount_0f7a4 1 (some .int) :: ([.constant RJ6 265 (1431655765), .constant RJ6 266 (858993459), .constant RJ6 267 (252645135)])
def wsX0_addSource_r1 : List Cond := [Cond.classLink RX0 88 "java/lang/IllegalArgumentException", Cond.initialized "java/lang/IllegalArgumentException", Cond.classLink RX0 45 "java/lang/IllegalStateException", Cond.initialized "java/lang/IllegalStateException", Cond.fieldLink RX0 28 "Privacyledger" "sourcesOfRecord" "[I", Cond.fieldLink RX0 83 "Privacyledger" "presentRecords" "I", Cond.fieldLink RX0 25 "Privacyledger" "subjectsOfRecord" "[I", Cond.methodLink RX0 80 yX0_checkRecord, Cond.instanceMethod yX0_checkRecord, Cond.selects RX0 yX0_checkRecord yX0_checkRecord, Cond.initialized RX0, Cond.code yX0_checkRecord cX0_checkRecord 2 none, Cond.classLink RX0 186 "java/lang/IndexOutOfBoundsException", Cond.initialized "java/lang/IndexOutOfBoundsException", Cond.fieldLink RX0 115 "Privacyledger" "recordCount" "I", Cond.methodLink RX0 65 yX0_has, Cond.static yX0_has, Cond.code yX0_has cX0_has 2 (some .boolean), Cond.methodLink RX0 55 yX0_bit, Cond.static yX0_bit, Cond.code yX0_bit cX0_bit 1 (some .int), Cond.methodLink RX0 95 yX0_isRoot, Cond.instanceMethod yX0_isRoot, Cond.selects RX0 yX0_isRoot yX0_isRoot]
def wsX0_addSource_r2 : List Cond := [Cond.code yX0_isRoot cX0_isRoot 2 (some .boolean), Cond.methodLink RX0 103 yX0_withAllBelow, Cond.instanceMethod yX0_withAllBelow, Cond.selects RX0 yX0_withAllBelow yX0_withAllBelow, Cond.code yX0_withAllBelow cX0_withAllBelow 4 (some .int), Cond.methodLink RX0 106 yX0_addSubjects, Cond.instanceMethod yX0_addSubjects, Cond.selects RX0 yX0_addSubjects yX0_addSubjects, Cond.code yX0_addSubjects cX0_addSubjects 4 none, Cond.methodLink RX0 110 yJ6_bitCount_0f7a4, Cond.static yJ6_bitCount_0f7a4, Cond.initialized RJ6, Cond.code yJ6_bitCount_0f7a4 cJ6_bitCount_0f7a4 1 (some .int), Cond.constant RJ6 265 (1431655765), Cond.constant RJ6 266 (858993459), Cond.constant RJ6 267 (252645135)]
def wsX0_addSource : List Cond := .code yX0_addSource cX0_addSource 3 (some .int) :: ((wsX0_addSource_r1 ++ wsX0_addSource_r2) ++ wsX00 ++ (vx_atS RX0 92 "java/lang/IllegalArgumentException" ["java/lang/RuntimeException", "java/lang/Exception"]).filter goodWord ++ (vx_atS RX0 49 "java/lang/IllegalStateException" ["java/lang/RuntimeException", "java/lang/Exception"]).filter goodWord ++ (vx_atS RX0 190 "java/lang/IndexOutOfBoundsException" ["java/lang/RuntimeException", "java/lang/Exception"]).filter goodWord)
def wsX0_records : List Cond := .code yX0_records cX0_records 1 (some .int) :: ([.fieldLink RX0 115 "Privacyledger" "recordCount" "I"] ++ wsX00)
def wsX0_stateOf : List Cond := .code yX0_stateOf cX0_stateOf 2 (some .int) :: ([.fieldLink RX0 118 "Privacyledger" "erasedRecords" "I", .fieldLink RX0 121 "Privacyledger" "requestedRecords" "I", .methodLink RX0 80 yX0_checkRecord, .instanceMethod yX0_checkRecord, .selects RX0 yX0_checkRecord yX0_checkRecord, .initialized RX0, .code yX0_checkRecord cX0_checkRecord 2 none, .classLink RX0 186 "java/lang/IndexOutOfBoundsException", .initialized "java/lang/IndexOutOfBoundsException", .fieldLink RX0 115 "Privacyledger" "recordCount" "I", .methodLink RX0 65 yX0_has, .static yX0_has, .code yX0_has cX0_has 2 (some .boolean), .methodLink RX0 55 yX0_bit, .static yX0_bit, .code yX0_bit cX0_bit 1 (some .int)] ++ wsX00 ++ (vx_atS RX0 190 "java/lang/IndexOutOfBoundsException" ["java/lang/RuntimeException", "java/lang/Exception"]).filter goodWord)
def wsX0_subjectsOf : List Cond := .code yX0_subjectsOf cX0_subjectsOf 2 (some .int) :: ([.fieldLink RX0 25 "Privacyledger" "subjectsOfRecord" "[I", .methodLink RX0 80 yX0_checkRecord, .instanceMethod yX0_checkRecord, .selects RX0 yX0_checkRecord yX0_checkRecord, .initialized RX0, .code yX0_checkRecord cX0_checkRecord 2 none, .classLink RX0 186 "java/lang/IndexOutOfBoundsException", .initialized "java/lang/IndexOutOfBoundsException", .fieldLink RX0 115 "Privacyledger" "recordCount" "I"] ++ wsX00 ++ (vx_atS RX0 190 "java/lang/IndexOutOfBoundsException" ["java/lang/RuntimeException", "java/lang/Exception"]).filter goodWord)
def wsX0_allBelow : List Cond := .code yX0_allBelow cX0_allBelow 2 (some .int) :: ([.methodLink RX0 55 yX0_bit, .static yX0_bit, .initialized RX0, .code yX0_bit cX0_bit 1 (some .int), .methodLink RX0 103 yX0_withAllBelow, .instanceMethod yX0_withAllBelow, .selects RX0 yX0_withAllBelow yX0_withAllBelow, .code yX0_withAllBelow cX0_withAllBelow 4 (some .int), .fieldLink RX0 115 "Privacyledger" "recordCount" "I", .fieldLink RX0 28 "Privacyledger" "sourcesOfRecord" "[I"] ++ wsX00)
def wsX0_below : List Cond := .code yX0_below cX0_below 2 (some .int) :: ([.methodLink RX0 80 yX0_checkRecord, .instanceMethod yX0_checkRecord, .selects RX0 yX0_checkRecord yX0_checkRecord, .initialized RX0, .code yX0_checkRecord cX0_checkRecord 2 none, .classLink RX0 186 "java/lang/IndexOutOfBoundsException", .initialized "java/lang/IndexOutOfBoundsException", .fieldLink RX0 115 "Privacyledger" "recordCount" "I", .methodLink RX0 124 yX0_allBelow, .instanceMethod yX0_allBelow, .selects RX0 yX0_allBelow yX0_allBelow, .code yX0_allBelow cX0_allBelow 2 (some .int), .methodLink RX0 55 yX0_bit, .static yX0_bit, .code yX0_bit cX0_bit 1 (some .int), .methodLink RX0 103 yX0_withAllBelow, .instanceMethod yX0_withAllBelow, .selects RX0 yX0_withAllBelow yX0_withAllBelow, .code yX0_withAllBelow cX0_withAllBelow 4 (some .int), .fieldLink RX0 28 "Privacyledger" "sourcesOfRecord" "[I"] ++ wsX00 ++ (vx_atS RX0 190 "java/lang/IndexOutOfBoundsException" ["java/lang/RuntimeException", "java/lang/Exception"]).filter goodWord)
def wsX0_endNow_r1 : List Cond := [Cond.fieldLink RX0 22 "Privacyledger" "purposesOfRecord" "[I", Cond.fieldLink RX0 25 "Privacyledger" "subjectsOfRecord" "[I", Cond.fieldLink RX0 41 "Privacyledger" "purposeCount" "I", Cond.fieldLink RX0 9 "Privacyledger" "retentionOfPurpose" "[I", Cond.methodLink RX0 214 Lib.Math.max.name, Cond.static Lib.Math.max.name, Cond.initialized "java/lang/Math", Cond.code Lib.Math.max.name Lib.Math.max.code 2 (some .int), Cond.fieldLink RX0 19 "Privacyledger" "dayAdded" "[I", Cond.methodLink RX0 130 yX0_purposesAllowedBy, Cond.instanceMethod yX0_purposesAllowedBy, Cond.selects RX0 yX0_purposesAllowedBy yX0_purposesAllowedBy, Cond.initialized RX0, Cond.code yX0_purposesAllowedBy cX0_purposesAllowedBy 4 (some .int), Cond.fieldLink RX0 13 "Privacyledger" "consentsOfSubject" "[I", Cond.fieldLink RX0 52 "Privacyledger" "purposesWithoutConsent" "I", Cond.methodLink RX0 193 yX0_allPurposes, Cond.instanceMethod yX0_allPurposes, Cond.selects RX0 yX0_allPurposes yX0_allPurposes, Cond.code yX0_allPurposes cX0_allPurposes 1 (some .int), Cond.methodLink RX0 55 yX0_bit, Cond.static yX0_bit, Cond.code yX0_bit cX0_bit 1 (some .int), Cond.methodLink RX0 65 yX0_has]
def wsX0_endNow_r2 : List Cond := [Cond.static yX0_has, Cond.code yX0_has cX0_has 2 (some .boolean)]
def wsX0_endNow : List Cond := .code yX0_endNow cX0_endNow 5 (some .int) :: ((wsX0_endNow_r1 ++ wsX0_endNow_r2) ++ wsX00)
def wsX0_endOf_r1 : List Cond := [Cond.methodLink RX0 80 yX0_checkRecord, Cond.instanceMethod yX0_checkRecord, Cond.selects RX0 yX0_checkRecord yX0_checkRecord, Cond.initialized RX0, Cond.code yX0_checkRecord cX0_checkRecord 2 none, Cond.classLink RX0 186 "java/lang/IndexOutOfBoundsException", Cond.initialized "java/lang/IndexOutOfBoundsException", Cond.fieldLink RX0 115 "Privacyledger" "recordCount" "I", Cond.methodLink RX0 127 yX0_endNow, Cond.instanceMethod yX0_endNow, Cond.selects RX0 yX0_endNow yX0_endNow, Cond.code yX0_endNow cX0_endNow 5 (some .int), Cond.fieldLink RX0 22 "Privacyledger" "purposesOfRecord" "[I", Cond.fieldLink RX0 25 "Privacyledger" "subjectsOfRecord" "[I", Cond.fieldLink RX0 41 "Privacyledger" "purposeCount" "I", Cond.fieldLink RX0 9 "Privacyledger" "retentionOfPurpose" "[I", Cond.methodLink RX0 214 Lib.Math.max.name, Cond.static Lib.Math.max.name, Cond.initialized "java/lang/Math", Cond.code Lib.Math.max.name Lib.Math.max.code 2 (some .int), Cond.fieldLink RX0 19 "Privacyledger" "dayAdded" "[I", Cond.methodLink RX0 130 yX0_purposesAllowedBy, Cond.instanceMethod yX0_purposesAllowedBy, Cond.selects RX0 yX0_purposesAllowedBy yX0_purposesAllowedBy]
def wsX0_endOf_r2 : List Cond := [Cond.code yX0_purposesAllowedBy cX0_purposesAllowedBy 4 (some .int), Cond.fieldLink RX0 13 "Privacyledger" "consentsOfSubject" "[I", Cond.fieldLink RX0 52 "Privacyledger" "purposesWithoutConsent" "I", Cond.methodLink RX0 193 yX0_allPurposes, Cond.instanceMethod yX0_allPurposes, Cond.selects RX0 yX0_allPurposes yX0_allPurposes, Cond.code yX0_allPurposes cX0_allPurposes 1 (some .int), Cond.methodLink RX0 55 yX0_bit, Cond.static yX0_bit, Cond.code yX0_bit cX0_bit 1 (some .int), Cond.methodLink RX0 65 yX0_has, Cond.static yX0_has, Cond.code yX0_has cX0_has 2 (some .boolean)]
def wsX0_endOf : List Cond := .code yX0_endOf cX0_endOf 2 (some .int) :: ((wsX0_endOf_r1 ++ wsX0_endOf_r2) ++ wsX00 ++ (vx_atS RX0 190 "java/lang/IndexOutOfBoundsException" ["java/lang/RuntimeException", "java/lang/Exception"]).filter goodWord)
def wsX0_whyNoUse_r1 : List Cond := [Cond.fieldLink RX0 118 "Privacyledger" "erasedRecords" "I", Cond.fieldLink RX0 121 "Privacyledger" "requestedRecords" "I", Cond.fieldLink RX0 22 "Privacyledger" "purposesOfRecord" "[I", Cond.fieldLink RX0 25 "Privacyledger" "subjectsOfRecord" "[I", Cond.fieldLink RX0 19 "Privacyledger" "dayAdded" "[I", Cond.methodLink RX0 80 yX0_checkRecord, Cond.instanceMethod yX0_checkRecord, Cond.selects RX0 yX0_checkRecord yX0_checkRecord, Cond.initialized RX0, Cond.code yX0_checkRecord cX0_checkRecord 2 none, Cond.classLink RX0 186 "java/lang/IndexOutOfBoundsException", Cond.initialized "java/lang/IndexOutOfBoundsException", Cond.fieldLink RX0 115 "Privacyledger" "recordCount" "I", Cond.methodLink RX0 59 yX0_checkPurpose, Cond.instanceMethod yX0_checkPurpose, Cond.selects RX0 yX0_checkPurpose yX0_checkPurpose, Cond.code yX0_checkPurpose cX0_checkPurpose 2 none, Cond.fieldLink RX0 41 "Privacyledger" "purposeCount" "I", Cond.methodLink RX0 65 yX0_has, Cond.static yX0_has, Cond.code yX0_has cX0_has 2 (some .boolean), Cond.methodLink RX0 55 yX0_bit, Cond.static yX0_bit, Cond.code yX0_bit cX0_bit 1 (some .int)]
def wsX0_whyNoUse_r2 : List Cond := [Cond.methodLink RX0 130 yX0_purposesAllowedBy, Cond.instanceMethod yX0_purposesAllowedBy, Cond.selects RX0 yX0_purposesAllowedBy yX0_purposesAllowedBy, Cond.code yX0_purposesAllowedBy cX0_purposesAllowedBy 4 (some .int), Cond.fieldLink RX0 13 "Privacyledger" "consentsOfSubject" "[I", Cond.fieldLink RX0 52 "Privacyledger" "purposesWithoutConsent" "I", Cond.methodLink RX0 193 yX0_allPurposes, Cond.instanceMethod yX0_allPurposes, Cond.selects RX0 yX0_allPurposes yX0_allPurposes, Cond.code yX0_allPurposes cX0_allPurposes 1 (some .int), Cond.methodLink RX0 133 yX0_isRetained, Cond.instanceMethod yX0_isRetained, Cond.selects RX0 yX0_isRetained yX0_isRetained, Cond.code yX0_isRetained cX0_isRetained 3 (some .boolean), Cond.fieldLink RX0 149 "Privacyledger" "today" "I", Cond.fieldLink RX0 9 "Privacyledger" "retentionOfPurpose" "[I"]
def wsX0_whyNoUse : List Cond := .code yX0_whyNoUse cX0_whyNoUse 3 (some .int) :: ((wsX0_whyNoUse_r1 ++ wsX0_whyNoUse_r2) ++ wsX00 ++ (vx_atS RX0 190 "java/lang/IndexOutOfBoundsException" ["java/lang/RuntimeException", "java/lang/Exception"]).filter goodWord)
def wsX0_useIndex : List Cond := .code yX0_useIndex cX0_useIndex 2 (some .int) :: ([])
def wsX0_use_r1 : List Cond := [Cond.classLink RX0 45 "java/lang/IllegalStateException", Cond.initialized "java/lang/IllegalStateException", Cond.fieldLink RX0 31 "Privacyledger" "useCounts" "[I", Cond.methodLink RX0 136 yX0_whyNoUse, Cond.instanceMethod yX0_whyNoUse, Cond.selects RX0 yX0_whyNoUse yX0_whyNoUse, Cond.initialized RX0, Cond.code yX0_whyNoUse cX0_whyNoUse 3 (some .int), Cond.fieldLink RX0 118 "Privacyledger" "erasedRecords" "I", Cond.fieldLink RX0 121 "Privacyledger" "requestedRecords" "I", Cond.fieldLink RX0 22 "Privacyledger" "purposesOfRecord" "[I", Cond.fieldLink RX0 25 "Privacyledger" "subjectsOfRecord" "[I", Cond.fieldLink RX0 19 "Privacyledger" "dayAdded" "[I", Cond.methodLink RX0 80 yX0_checkRecord, Cond.instanceMethod yX0_checkRecord, Cond.selects RX0 yX0_checkRecord yX0_checkRecord, Cond.code yX0_checkRecord cX0_checkRecord 2 none, Cond.classLink RX0 186 "java/lang/IndexOutOfBoundsException", Cond.initialized "java/lang/IndexOutOfBoundsException", Cond.fieldLink RX0 115 "Privacyledger" "recordCount" "I", Cond.methodLink RX0 59 yX0_checkPurpose, Cond.instanceMethod yX0_checkPurpose, Cond.selects RX0 yX0_checkPurpose yX0_checkPurpose, Cond.code yX0_checkPurpose cX0_checkPurpose 2 none]
def wsX0_use_r2 : List Cond := [Cond.fieldLink RX0 41 "Privacyledger" "purposeCount" "I", Cond.methodLink RX0 65 yX0_has, Cond.static yX0_has, Cond.code yX0_has cX0_has 2 (some .boolean), Cond.methodLink RX0 55 yX0_bit, Cond.static yX0_bit, Cond.code yX0_bit cX0_bit 1 (some .int), Cond.methodLink RX0 130 yX0_purposesAllowedBy, Cond.instanceMethod yX0_purposesAllowedBy, Cond.selects RX0 yX0_purposesAllowedBy yX0_purposesAllowedBy, Cond.code yX0_purposesAllowedBy cX0_purposesAllowedBy 4 (some .int), Cond.fieldLink RX0 13 "Privacyledger" "consentsOfSubject" "[I", Cond.fieldLink RX0 52 "Privacyledger" "purposesWithoutConsent" "I", Cond.methodLink RX0 193 yX0_allPurposes, Cond.instanceMethod yX0_allPurposes, Cond.selects RX0 yX0_allPurposes yX0_allPurposes, Cond.code yX0_allPurposes cX0_allPurposes 1 (some .int), Cond.methodLink RX0 133 yX0_isRetained, Cond.instanceMethod yX0_isRetained, Cond.selects RX0 yX0_isRetained yX0_isRetained, Cond.code yX0_isRetained cX0_isRetained 3 (some .boolean), Cond.fieldLink RX0 149 "Privacyledger" "today" "I", Cond.fieldLink RX0 9 "Privacyledger" "retentionOfPurpose" "[I", Cond.methodLink RX0 141 yX0_useIndex]
def wsX0_use_r3 : List Cond := [Cond.static yX0_useIndex, Cond.code yX0_useIndex cX0_useIndex 2 (some .int)]
def wsX0_use : List Cond := .code yX0_use cX0_use 4 (some .int) :: ((wsX0_use_r1 ++ (wsX0_use_r2 ++ wsX0_use_r3)) ++ wsX00 ++ (vx_atS RX0 49 "java/lang/IllegalStateException" ["java/lang/RuntimeException", "java/lang/Exception"]).filter goodWord ++ (vx_atS RX0 190 "java/lang/IndexOutOfBoundsException" ["java/lang/RuntimeException", "java/lang/Exception"]).filter goodWord)
def wsX0_uses : List Cond := .code yX0_uses cX0_uses 5 (some .int) :: ([.fieldLink RX0 115 "Privacyledger" "recordCount" "I", .fieldLink RX0 25 "Privacyledger" "subjectsOfRecord" "[I", .fieldLink RX0 31 "Privacyledger" "useCounts" "[I", .methodLink RX0 62 yX0_checkSubject, .instanceMethod yX0_checkSubject, .selects RX0 yX0_checkSubject yX0_checkSubject, .initialized RX0, .code yX0_checkSubject cX0_checkSubject 2 none, .classLink RX0 186 "java/lang/IndexOutOfBoundsException", .initialized "java/lang/IndexOutOfBoundsException", .methodLink RX0 59 yX0_checkPurpose, .instanceMethod yX0_checkPurpose, .selects RX0 yX0_checkPurpose yX0_checkPurpose, .code yX0_checkPurpose cX0_checkPurpose 2 none, .fieldLink RX0 41 "Privacyledger" "purposeCount" "I", .methodLink RX0 65 yX0_has, .static yX0_has, .code yX0_has cX0_has 2 (some .boolean), .methodLink RX0 55 yX0_bit, .static yX0_bit, .code yX0_bit cX0_bit 1 (some .int), .methodLink RX0 141 yX0_useIndex, .static yX0_useIndex, .code yX0_useIndex cX0_useIndex 2 (some .int)] ++ wsX00 ++ (vx_atS RX0 190 "java/lang/IndexOutOfBoundsException" ["java/lang/RuntimeException", "java/lang/Exception"]).filter goodWord)
def wsX0_countDaysWithConsent : List Cond := .code yX0_countDaysWithConsent cX0_countDaysWithConsent 4 none :: ([.fieldLink RX0 41 "Privacyledger" "purposeCount" "I", .fieldLink RX0 13 "Privacyledger" "consentsOfSubject" "[I", .fieldLink RX0 16 "Privacyledger" "consentDays" "[I", .methodLink RX0 65 yX0_has, .static yX0_has, .initialized RX0, .code yX0_has cX0_has 2 (some .boolean), .methodLink RX0 55 yX0_bit, .static yX0_bit, .code yX0_bit cX0_bit 1 (some .int), .methodLink RX0 69 yX0_consentIndex, .static yX0_consentIndex, .code yX0_consentIndex cX0_consentIndex 2 (some .int)] ++ wsX00)
def wsX0_dueRecords_r1 : List Cond := [Cond.fieldLink RX0 115 "Privacyledger" "recordCount" "I", Cond.fieldLink RX0 83 "Privacyledger" "presentRecords" "I", Cond.fieldLink RX0 22 "Privacyledger" "purposesOfRecord" "[I", Cond.fieldLink RX0 25 "Privacyledger" "subjectsOfRecord" "[I", Cond.fieldLink RX0 19 "Privacyledger" "dayAdded" "[I", Cond.methodLink RX0 65 yX0_has, Cond.static yX0_has, Cond.initialized RX0, Cond.code yX0_has cX0_has 2 (some .boolean), Cond.methodLink RX0 55 yX0_bit, Cond.static yX0_bit, Cond.code yX0_bit cX0_bit 1 (some .int), Cond.methodLink RX0 208 yX0_isAnyOpen, Cond.instanceMethod yX0_isAnyOpen, Cond.selects RX0 yX0_isAnyOpen yX0_isAnyOpen, Cond.code yX0_isAnyOpen cX0_isAnyOpen 6 (some .boolean), Cond.fieldLink RX0 41 "Privacyledger" "purposeCount" "I", Cond.methodLink RX0 130 yX0_purposesAllowedBy, Cond.instanceMethod yX0_purposesAllowedBy, Cond.selects RX0 yX0_purposesAllowedBy yX0_purposesAllowedBy, Cond.code yX0_purposesAllowedBy cX0_purposesAllowedBy 4 (some .int), Cond.fieldLink RX0 13 "Privacyledger" "consentsOfSubject" "[I", Cond.fieldLink RX0 52 "Privacyledger" "purposesWithoutConsent" "I", Cond.methodLink RX0 193 yX0_allPurposes]
def wsX0_dueRecords_r2 : List Cond := [Cond.instanceMethod yX0_allPurposes, Cond.selects RX0 yX0_allPurposes yX0_allPurposes, Cond.code yX0_allPurposes cX0_allPurposes 1 (some .int), Cond.methodLink RX0 133 yX0_isRetained, Cond.instanceMethod yX0_isRetained, Cond.selects RX0 yX0_isRetained yX0_isRetained, Cond.code yX0_isRetained cX0_isRetained 3 (some .boolean), Cond.fieldLink RX0 149 "Privacyledger" "today" "I", Cond.fieldLink RX0 9 "Privacyledger" "retentionOfPurpose" "[I"]
def wsX0_dueRecords : List Cond := .code yX0_dueRecords cX0_dueRecords 3 (some .int) :: ((wsX0_dueRecords_r1 ++ wsX0_dueRecords_r2) ++ wsX00)
def wsX0_requestWithAllBelow : List Cond := .code yX0_requestWithAllBelow cX0_requestWithAllBelow 3 (some .int) :: ([.fieldLink RX0 83 "Privacyledger" "presentRecords" "I", .fieldLink RX0 121 "Privacyledger" "requestedRecords" "I", .methodLink RX0 103 yX0_withAllBelow, .instanceMethod yX0_withAllBelow, .selects RX0 yX0_withAllBelow yX0_withAllBelow, .initialized RX0, .code yX0_withAllBelow cX0_withAllBelow 4 (some .int), .fieldLink RX0 115 "Privacyledger" "recordCount" "I", .fieldLink RX0 28 "Privacyledger" "sourcesOfRecord" "[I", .methodLink RX0 55 yX0_bit, .static yX0_bit, .code yX0_bit cX0_bit 1 (some .int), .methodLink RX0 110 yJ6_bitCount_0f7a4, .static yJ6_bitCount_0f7a4, .initialized RJ6, .code yJ6_bitCount_0f7a4 cJ6_bitCount_0f7a4 1 (some .int), .constant RJ6 265 (1431655765), .constant RJ6 266 (858993459), .constant RJ6 267 (252645135)] ++ wsX00)
def wsX0_passDays_r1 : List Cond := [Cond.classLink RX0 88 "java/lang/IllegalArgumentException", Cond.initialized "java/lang/IllegalArgumentException", Cond.fieldLink RX0 149 "Privacyledger" "today" "I", Cond.methodLink RX0 146 yX0_countDaysWithConsent, Cond.instanceMethod yX0_countDaysWithConsent, Cond.selects RX0 yX0_countDaysWithConsent yX0_countDaysWithConsent, Cond.initialized RX0, Cond.code yX0_countDaysWithConsent cX0_countDaysWithConsent 4 none, Cond.fieldLink RX0 41 "Privacyledger" "purposeCount" "I", Cond.fieldLink RX0 13 "Privacyledger" "consentsOfSubject" "[I", Cond.fieldLink RX0 16 "Privacyledger" "consentDays" "[I", Cond.methodLink RX0 65 yX0_has, Cond.static yX0_has, Cond.code yX0_has cX0_has 2 (some .boolean), Cond.methodLink RX0 55 yX0_bit, Cond.static yX0_bit, Cond.code yX0_bit cX0_bit 1 (some .int), Cond.methodLink RX0 69 yX0_consentIndex, Cond.static yX0_consentIndex, Cond.code yX0_consentIndex cX0_consentIndex 2 (some .int), Cond.methodLink RX0 152 yX0_dueRecords, Cond.instanceMethod yX0_dueRecords, Cond.selects RX0 yX0_dueRecords yX0_dueRecords, Cond.code yX0_dueRecords cX0_dueRecords 3 (some .int)]
def wsX0_passDays_r2 : List Cond := [Cond.fieldLink RX0 115 "Privacyledger" "recordCount" "I", Cond.fieldLink RX0 83 "Privacyledger" "presentRecords" "I", Cond.fieldLink RX0 22 "Privacyledger" "purposesOfRecord" "[I", Cond.fieldLink RX0 25 "Privacyledger" "subjectsOfRecord" "[I", Cond.fieldLink RX0 19 "Privacyledger" "dayAdded" "[I", Cond.methodLink RX0 208 yX0_isAnyOpen, Cond.instanceMethod yX0_isAnyOpen, Cond.selects RX0 yX0_isAnyOpen yX0_isAnyOpen, Cond.code yX0_isAnyOpen cX0_isAnyOpen 6 (some .boolean), Cond.methodLink RX0 130 yX0_purposesAllowedBy, Cond.instanceMethod yX0_purposesAllowedBy, Cond.selects RX0 yX0_purposesAllowedBy yX0_purposesAllowedBy, Cond.code yX0_purposesAllowedBy cX0_purposesAllowedBy 4 (some .int), Cond.fieldLink RX0 52 "Privacyledger" "purposesWithoutConsent" "I", Cond.methodLink RX0 193 yX0_allPurposes, Cond.instanceMethod yX0_allPurposes, Cond.selects RX0 yX0_allPurposes yX0_allPurposes, Cond.code yX0_allPurposes cX0_allPurposes 1 (some .int), Cond.methodLink RX0 133 yX0_isRetained, Cond.instanceMethod yX0_isRetained, Cond.selects RX0 yX0_isRetained yX0_isRetained, Cond.code yX0_isRetained cX0_isRetained 3 (some .boolean), Cond.fieldLink RX0 9 "Privacyledger" "retentionOfPurpose" "[I", Cond.methodLink RX0 156 yX0_requestWithAllBelow]
def wsX0_passDays_r3 : List Cond := [Cond.instanceMethod yX0_requestWithAllBelow, Cond.selects RX0 yX0_requestWithAllBelow yX0_requestWithAllBelow, Cond.code yX0_requestWithAllBelow cX0_requestWithAllBelow 3 (some .int), Cond.fieldLink RX0 121 "Privacyledger" "requestedRecords" "I", Cond.methodLink RX0 103 yX0_withAllBelow, Cond.instanceMethod yX0_withAllBelow, Cond.selects RX0 yX0_withAllBelow yX0_withAllBelow, Cond.code yX0_withAllBelow cX0_withAllBelow 4 (some .int), Cond.fieldLink RX0 28 "Privacyledger" "sourcesOfRecord" "[I", Cond.methodLink RX0 110 yJ6_bitCount_0f7a4, Cond.static yJ6_bitCount_0f7a4, Cond.initialized RJ6, Cond.code yJ6_bitCount_0f7a4 cJ6_bitCount_0f7a4 1 (some .int), Cond.constant RJ6 265 (1431655765), Cond.constant RJ6 266 (858993459), Cond.constant RJ6 267 (252645135)]
def wsX0_passDays : List Cond := .code yX0_passDays cX0_passDays 2 (some .int) :: ((wsX0_passDays_r1 ++ (wsX0_passDays_r2 ++ wsX0_passDays_r3)) ++ wsX00 ++ (vx_atS RX0 92 "java/lang/IllegalArgumentException" ["java/lang/RuntimeException", "java/lang/Exception"]).filter goodWord)
def wsX0_day : List Cond := .code yX0_day cX0_day 1 (some .int) :: ([.fieldLink RX0 149 "Privacyledger" "today" "I"] ++ wsX00)
def wsX0_nextEnd_r1 : List Cond := [Cond.fieldLink RX0 115 "Privacyledger" "recordCount" "I", Cond.fieldLink RX0 83 "Privacyledger" "presentRecords" "I", Cond.methodLink RX0 159 Lib.Math.min.name, Cond.static Lib.Math.min.name, Cond.initialized "java/lang/Math", Cond.code Lib.Math.min.name Lib.Math.min.code 2 (some .int), Cond.methodLink RX0 65 yX0_has, Cond.static yX0_has, Cond.initialized RX0, Cond.code yX0_has cX0_has 2 (some .boolean), Cond.methodLink RX0 55 yX0_bit, Cond.static yX0_bit, Cond.code yX0_bit cX0_bit 1 (some .int), Cond.methodLink RX0 127 yX0_endNow, Cond.instanceMethod yX0_endNow, Cond.selects RX0 yX0_endNow yX0_endNow, Cond.code yX0_endNow cX0_endNow 5 (some .int), Cond.fieldLink RX0 22 "Privacyledger" "purposesOfRecord" "[I", Cond.fieldLink RX0 25 "Privacyledger" "subjectsOfRecord" "[I", Cond.fieldLink RX0 41 "Privacyledger" "purposeCount" "I", Cond.fieldLink RX0 9 "Privacyledger" "retentionOfPurpose" "[I", Cond.methodLink RX0 214 Lib.Math.max.name, Cond.static Lib.Math.max.name, Cond.code Lib.Math.max.name Lib.Math.max.code 2 (some .int)]
def wsX0_nextEnd_r2 : List Cond := [Cond.fieldLink RX0 19 "Privacyledger" "dayAdded" "[I", Cond.methodLink RX0 130 yX0_purposesAllowedBy, Cond.instanceMethod yX0_purposesAllowedBy, Cond.selects RX0 yX0_purposesAllowedBy yX0_purposesAllowedBy, Cond.code yX0_purposesAllowedBy cX0_purposesAllowedBy 4 (some .int), Cond.fieldLink RX0 13 "Privacyledger" "consentsOfSubject" "[I", Cond.fieldLink RX0 52 "Privacyledger" "purposesWithoutConsent" "I", Cond.methodLink RX0 193 yX0_allPurposes, Cond.instanceMethod yX0_allPurposes, Cond.selects RX0 yX0_allPurposes yX0_allPurposes, Cond.code yX0_allPurposes cX0_allPurposes 1 (some .int)]
def wsX0_nextEnd : List Cond := .code yX0_nextEnd cX0_nextEnd 4 (some .int) :: ((wsX0_nextEnd_r1 ++ wsX0_nextEnd_r2) ++ wsX00)
def wsX0_checkCase : List Cond := .code yX0_checkCase cX0_checkCase 2 none :: ([.classLink RX0 186 "java/lang/IndexOutOfBoundsException", .initialized "java/lang/IndexOutOfBoundsException"] ++ (vx_atS RX0 190 "java/lang/IndexOutOfBoundsException" ["java/lang/RuntimeException", "java/lang/Exception"]).filter goodWord)
def wsX0_hold_r1 : List Cond := [Cond.classLink RX0 45 "java/lang/IllegalStateException", Cond.initialized "java/lang/IllegalStateException", Cond.fieldLink RX0 118 "Privacyledger" "erasedRecords" "I", Cond.fieldLink RX0 34 "Privacyledger" "recordsOfCase" "[I", Cond.methodLink RX0 164 yX0_checkCase, Cond.instanceMethod yX0_checkCase, Cond.selects RX0 yX0_checkCase yX0_checkCase, Cond.initialized RX0, Cond.code yX0_checkCase cX0_checkCase 2 none, Cond.classLink RX0 186 "java/lang/IndexOutOfBoundsException", Cond.initialized "java/lang/IndexOutOfBoundsException", Cond.methodLink RX0 80 yX0_checkRecord, Cond.instanceMethod yX0_checkRecord, Cond.selects RX0 yX0_checkRecord yX0_checkRecord, Cond.code yX0_checkRecord cX0_checkRecord 2 none, Cond.fieldLink RX0 115 "Privacyledger" "recordCount" "I", Cond.methodLink RX0 65 yX0_has, Cond.static yX0_has, Cond.code yX0_has cX0_has 2 (some .boolean), Cond.methodLink RX0 55 yX0_bit, Cond.static yX0_bit, Cond.code yX0_bit cX0_bit 1 (some .int), Cond.methodLink RX0 110 yJ6_bitCount_0f7a4, Cond.static yJ6_bitCount_0f7a4]
def wsX0_hold_r2 : List Cond := [Cond.initialized RJ6, Cond.code yJ6_bitCount_0f7a4 cJ6_bitCount_0f7a4 1 (some .int), Cond.constant RJ6 265 (1431655765), Cond.constant RJ6 266 (858993459), Cond.constant RJ6 267 (252645135)]
def wsX0_hold : List Cond := .code yX0_hold cX0_hold 3 (some .int) :: ((wsX0_hold_r1 ++ wsX0_hold_r2) ++ wsX00 ++ (vx_atS RX0 49 "java/lang/IllegalStateException" ["java/lang/RuntimeException", "java/lang/Exception"]).filter goodWord ++ (vx_atS RX0 190 "java/lang/IndexOutOfBoundsException" ["java/lang/RuntimeException", "java/lang/Exception"]).filter goodWord)
def wsX0_heldRecords : List Cond := .code yX0_heldRecords cX0_heldRecords 3 (some .int) :: ([.fieldLink RX0 34 "Privacyledger" "recordsOfCase" "[I"] ++ wsX00)
def wsX0_close : List Cond := .code yX0_close cX0_close 3 (some .int) :: ([.fieldLink RX0 34 "Privacyledger" "recordsOfCase" "[I", .methodLink RX0 164 yX0_checkCase, .instanceMethod yX0_checkCase, .selects RX0 yX0_checkCase yX0_checkCase, .initialized RX0, .code yX0_checkCase cX0_checkCase 2 none, .classLink RX0 186 "java/lang/IndexOutOfBoundsException", .initialized "java/lang/IndexOutOfBoundsException", .methodLink RX0 171 yX0_heldRecords, .instanceMethod yX0_heldRecords, .selects RX0 yX0_heldRecords yX0_heldRecords, .code yX0_heldRecords cX0_heldRecords 3 (some .int), .methodLink RX0 110 yJ6_bitCount_0f7a4, .static yJ6_bitCount_0f7a4, .initialized RJ6, .code yJ6_bitCount_0f7a4 cJ6_bitCount_0f7a4 1 (some .int), .constant RJ6 265 (1431655765), .constant RJ6 266 (858993459), .constant RJ6 267 (252645135)] ++ wsX00 ++ (vx_atS RX0 190 "java/lang/IndexOutOfBoundsException" ["java/lang/RuntimeException", "java/lang/Exception"]).filter goodWord)
def wsX0_held : List Cond := .code yX0_held cX0_held 1 (some .int) :: ([.methodLink RX0 171 yX0_heldRecords, .instanceMethod yX0_heldRecords, .selects RX0 yX0_heldRecords yX0_heldRecords, .initialized RX0, .code yX0_heldRecords cX0_heldRecords 3 (some .int), .fieldLink RX0 34 "Privacyledger" "recordsOfCase" "[I"] ++ wsX00)
def wsX0_recordsOf : List Cond := .code yX0_recordsOf cX0_recordsOf 4 (some .int) :: ([.fieldLink RX0 115 "Privacyledger" "recordCount" "I", .fieldLink RX0 25 "Privacyledger" "subjectsOfRecord" "[I", .methodLink RX0 65 yX0_has, .static yX0_has, .initialized RX0, .code yX0_has cX0_has 2 (some .boolean), .methodLink RX0 55 yX0_bit, .static yX0_bit, .code yX0_bit cX0_bit 1 (some .int)] ++ wsX00)
def wsX0_request_r1 : List Cond := [Cond.fieldLink RX0 83 "Privacyledger" "presentRecords" "I", Cond.methodLink RX0 62 yX0_checkSubject, Cond.instanceMethod yX0_checkSubject, Cond.selects RX0 yX0_checkSubject yX0_checkSubject, Cond.initialized RX0, Cond.code yX0_checkSubject cX0_checkSubject 2 none, Cond.classLink RX0 186 "java/lang/IndexOutOfBoundsException", Cond.initialized "java/lang/IndexOutOfBoundsException", Cond.methodLink RX0 174 yX0_recordsOf, Cond.instanceMethod yX0_recordsOf, Cond.selects RX0 yX0_recordsOf yX0_recordsOf, Cond.code yX0_recordsOf cX0_recordsOf 4 (some .int), Cond.fieldLink RX0 115 "Privacyledger" "recordCount" "I", Cond.fieldLink RX0 25 "Privacyledger" "subjectsOfRecord" "[I", Cond.methodLink RX0 65 yX0_has, Cond.static yX0_has, Cond.code yX0_has cX0_has 2 (some .boolean), Cond.methodLink RX0 55 yX0_bit, Cond.static yX0_bit, Cond.code yX0_bit cX0_bit 1 (some .int), Cond.methodLink RX0 156 yX0_requestWithAllBelow, Cond.instanceMethod yX0_requestWithAllBelow, Cond.selects RX0 yX0_requestWithAllBelow yX0_requestWithAllBelow, Cond.code yX0_requestWithAllBelow cX0_requestWithAllBelow 3 (some .int)]
def wsX0_request_r2 : List Cond := [Cond.fieldLink RX0 121 "Privacyledger" "requestedRecords" "I", Cond.methodLink RX0 103 yX0_withAllBelow, Cond.instanceMethod yX0_withAllBelow, Cond.selects RX0 yX0_withAllBelow yX0_withAllBelow, Cond.code yX0_withAllBelow cX0_withAllBelow 4 (some .int), Cond.fieldLink RX0 28 "Privacyledger" "sourcesOfRecord" "[I", Cond.methodLink RX0 110 yJ6_bitCount_0f7a4, Cond.static yJ6_bitCount_0f7a4, Cond.initialized RJ6, Cond.code yJ6_bitCount_0f7a4 cJ6_bitCount_0f7a4 1 (some .int), Cond.constant RJ6 265 (1431655765), Cond.constant RJ6 266 (858993459), Cond.constant RJ6 267 (252645135)]
def wsX0_request : List Cond := .code yX0_request cX0_request 2 (some .int) :: ((wsX0_request_r1 ++ wsX0_request_r2) ++ wsX00 ++ (vx_atS RX0 190 "java/lang/IndexOutOfBoundsException" ["java/lang/RuntimeException", "java/lang/Exception"]).filter goodWord)
def wsX0_whyKept_r1 : List Cond := [Cond.fieldLink RX0 118 "Privacyledger" "erasedRecords" "I", Cond.fieldLink RX0 83 "Privacyledger" "presentRecords" "I", Cond.methodLink RX0 80 yX0_checkRecord, Cond.instanceMethod yX0_checkRecord, Cond.selects RX0 yX0_checkRecord yX0_checkRecord, Cond.initialized RX0, Cond.code yX0_checkRecord cX0_checkRecord 2 none, Cond.classLink RX0 186 "java/lang/IndexOutOfBoundsException", Cond.initialized "java/lang/IndexOutOfBoundsException", Cond.fieldLink RX0 115 "Privacyledger" "recordCount" "I", Cond.methodLink RX0 65 yX0_has, Cond.static yX0_has, Cond.code yX0_has cX0_has 2 (some .boolean), Cond.methodLink RX0 55 yX0_bit, Cond.static yX0_bit, Cond.code yX0_bit cX0_bit 1 (some .int), Cond.methodLink RX0 171 yX0_heldRecords, Cond.instanceMethod yX0_heldRecords, Cond.selects RX0 yX0_heldRecords yX0_heldRecords, Cond.code yX0_heldRecords cX0_heldRecords 3 (some .int), Cond.fieldLink RX0 34 "Privacyledger" "recordsOfCase" "[I", Cond.methodLink RX0 124 yX0_allBelow, Cond.instanceMethod yX0_allBelow, Cond.selects RX0 yX0_allBelow yX0_allBelow]
def wsX0_whyKept_r2 : List Cond := [Cond.code yX0_allBelow cX0_allBelow 2 (some .int), Cond.methodLink RX0 103 yX0_withAllBelow, Cond.instanceMethod yX0_withAllBelow, Cond.selects RX0 yX0_withAllBelow yX0_withAllBelow, Cond.code yX0_withAllBelow cX0_withAllBelow 4 (some .int), Cond.fieldLink RX0 28 "Privacyledger" "sourcesOfRecord" "[I"]
def wsX0_whyKept : List Cond := .code yX0_whyKept cX0_whyKept 2 (some .int) :: ((wsX0_whyKept_r1 ++ wsX0_whyKept_r2) ++ wsX00 ++ (vx_atS RX0 190 "java/lang/IndexOutOfBoundsException" ["java/lang/RuntimeException", "java/lang/Exception"]).filter goodWord)
def wsX0_moveToErased : List Cond := .code yX0_moveToErased cX0_moveToErased 2 none :: ([.fieldLink RX0 121 "Privacyledger" "requestedRecords" "I", .fieldLink RX0 118 "Privacyledger" "erasedRecords" "I", .methodLink RX0 55 yX0_bit, .static yX0_bit, .initialized RX0, .code yX0_bit cX0_bit 1 (some .int)] ++ wsX00)
def wsX0_erase_r1 : List Cond := [Cond.fieldLink RX0 115 "Privacyledger" "recordCount" "I", Cond.methodLink RX0 177 yX0_whyKept, Cond.instanceMethod yX0_whyKept, Cond.selects RX0 yX0_whyKept yX0_whyKept, Cond.initialized RX0, Cond.code yX0_whyKept cX0_whyKept 2 (some .int), Cond.fieldLink RX0 118 "Privacyledger" "erasedRecords" "I", Cond.fieldLink RX0 83 "Privacyledger" "presentRecords" "I", Cond.methodLink RX0 80 yX0_checkRecord, Cond.instanceMethod yX0_checkRecord, Cond.selects RX0 yX0_checkRecord yX0_checkRecord, Cond.code yX0_checkRecord cX0_checkRecord 2 none, Cond.classLink RX0 186 "java/lang/IndexOutOfBoundsException", Cond.initialized "java/lang/IndexOutOfBoundsException", Cond.methodLink RX0 65 yX0_has, Cond.static yX0_has, Cond.code yX0_has cX0_has 2 (some .boolean), Cond.methodLink RX0 55 yX0_bit, Cond.static yX0_bit, Cond.code yX0_bit cX0_bit 1 (some .int), Cond.methodLink RX0 171 yX0_heldRecords, Cond.instanceMethod yX0_heldRecords, Cond.selects RX0 yX0_heldRecords yX0_heldRecords, Cond.code yX0_heldRecords cX0_heldRecords 3 (some .int)]
def wsX0_erase_r2 : List Cond := [Cond.fieldLink RX0 34 "Privacyledger" "recordsOfCase" "[I", Cond.methodLink RX0 124 yX0_allBelow, Cond.instanceMethod yX0_allBelow, Cond.selects RX0 yX0_allBelow yX0_allBelow, Cond.code yX0_allBelow cX0_allBelow 2 (some .int), Cond.methodLink RX0 103 yX0_withAllBelow, Cond.instanceMethod yX0_withAllBelow, Cond.selects RX0 yX0_withAllBelow yX0_withAllBelow, Cond.code yX0_withAllBelow cX0_withAllBelow 4 (some .int), Cond.fieldLink RX0 28 "Privacyledger" "sourcesOfRecord" "[I", Cond.methodLink RX0 180 yX0_moveToErased, Cond.instanceMethod yX0_moveToErased, Cond.selects RX0 yX0_moveToErased yX0_moveToErased, Cond.code yX0_moveToErased cX0_moveToErased 2 none, Cond.fieldLink RX0 121 "Privacyledger" "requestedRecords" "I"]
def wsX0_erase : List Cond := .code yX0_erase cX0_erase 2 (some .int) :: ((wsX0_erase_r1 ++ wsX0_erase_r2) ++ wsX00 ++ (vx_atS RX0 190 "java/lang/IndexOutOfBoundsException" ["java/lang/RuntimeException", "java/lang/Exception"]).filter goodWord)
def wsX0_eraseAll_r1 : List Cond := [Cond.fieldLink RX0 115 "Privacyledger" "recordCount" "I", Cond.methodLink RX0 177 yX0_whyKept, Cond.instanceMethod yX0_whyKept, Cond.selects RX0 yX0_whyKept yX0_whyKept, Cond.initialized RX0, Cond.code yX0_whyKept cX0_whyKept 2 (some .int), Cond.fieldLink RX0 118 "Privacyledger" "erasedRecords" "I", Cond.fieldLink RX0 83 "Privacyledger" "presentRecords" "I", Cond.methodLink RX0 80 yX0_checkRecord, Cond.instanceMethod yX0_checkRecord, Cond.selects RX0 yX0_checkRecord yX0_checkRecord, Cond.code yX0_checkRecord cX0_checkRecord 2 none, Cond.classLink RX0 186 "java/lang/IndexOutOfBoundsException", Cond.initialized "java/lang/IndexOutOfBoundsException", Cond.methodLink RX0 65 yX0_has, Cond.static yX0_has, Cond.code yX0_has cX0_has 2 (some .boolean), Cond.methodLink RX0 55 yX0_bit, Cond.static yX0_bit, Cond.code yX0_bit cX0_bit 1 (some .int), Cond.methodLink RX0 171 yX0_heldRecords, Cond.instanceMethod yX0_heldRecords, Cond.selects RX0 yX0_heldRecords yX0_heldRecords, Cond.code yX0_heldRecords cX0_heldRecords 3 (some .int)]
def wsX0_eraseAll_r2 : List Cond := [Cond.fieldLink RX0 34 "Privacyledger" "recordsOfCase" "[I", Cond.methodLink RX0 124 yX0_allBelow, Cond.instanceMethod yX0_allBelow, Cond.selects RX0 yX0_allBelow yX0_allBelow, Cond.code yX0_allBelow cX0_allBelow 2 (some .int), Cond.methodLink RX0 103 yX0_withAllBelow, Cond.instanceMethod yX0_withAllBelow, Cond.selects RX0 yX0_withAllBelow yX0_withAllBelow, Cond.code yX0_withAllBelow cX0_withAllBelow 4 (some .int), Cond.fieldLink RX0 28 "Privacyledger" "sourcesOfRecord" "[I", Cond.methodLink RX0 180 yX0_moveToErased, Cond.instanceMethod yX0_moveToErased, Cond.selects RX0 yX0_moveToErased yX0_moveToErased, Cond.code yX0_moveToErased cX0_moveToErased 2 none, Cond.fieldLink RX0 121 "Privacyledger" "requestedRecords" "I"]
def wsX0_eraseAll : List Cond := .code yX0_eraseAll cX0_eraseAll 3 (some .int) :: ((wsX0_eraseAll_r1 ++ wsX0_eraseAll_r2) ++ wsX00 ++ (vx_atS RX0 190 "java/lang/IndexOutOfBoundsException" ["java/lang/RuntimeException", "java/lang/Exception"]).filter goodWord)
def wsX0_traces : List Cond := .code yX0_traces cX0_traces 2 (some .int) :: ([.fieldLink RX0 118 "Privacyledger" "erasedRecords" "I", .methodLink RX0 62 yX0_checkSubject, .instanceMethod yX0_checkSubject, .selects RX0 yX0_checkSubject yX0_checkSubject, .initialized RX0, .code yX0_checkSubject cX0_checkSubject 2 none, .classLink RX0 186 "java/lang/IndexOutOfBoundsException", .initialized "java/lang/IndexOutOfBoundsException", .methodLink RX0 174 yX0_recordsOf, .instanceMethod yX0_recordsOf, .selects RX0 yX0_recordsOf yX0_recordsOf, .code yX0_recordsOf cX0_recordsOf 4 (some .int), .fieldLink RX0 115 "Privacyledger" "recordCount" "I", .fieldLink RX0 25 "Privacyledger" "subjectsOfRecord" "[I", .methodLink RX0 65 yX0_has, .static yX0_has, .code yX0_has cX0_has 2 (some .boolean), .methodLink RX0 55 yX0_bit, .static yX0_bit, .code yX0_bit cX0_bit 1 (some .int)] ++ wsX00 ++ (vx_atS RX0 190 "java/lang/IndexOutOfBoundsException" ["java/lang/RuntimeException", "java/lang/Exception"]).filter goodWord)
def wsX0_rootsOf : List Cond := .code yX0_rootsOf cX0_rootsOf 4 (some .int) :: ([.fieldLink RX0 115 "Privacyledger" "recordCount" "I", .fieldLink RX0 25 "Privacyledger" "subjectsOfRecord" "[I", .methodLink RX0 95 yX0_isRoot, .instanceMethod yX0_isRoot, .selects RX0 yX0_isRoot yX0_isRoot, .initialized RX0, .code yX0_isRoot cX0_isRoot 2 (some .boolean), .fieldLink RX0 28 "Privacyledger" "sourcesOfRecord" "[I", .methodLink RX0 65 yX0_has, .static yX0_has, .code yX0_has cX0_has 2 (some .boolean), .methodLink RX0 55 yX0_bit, .static yX0_bit, .code yX0_bit cX0_bit 1 (some .int)] ++ wsX00)
def wsX0_tracesFromRoots_r1 : List Cond := [Cond.fieldLink RX0 118 "Privacyledger" "erasedRecords" "I", Cond.methodLink RX0 62 yX0_checkSubject, Cond.instanceMethod yX0_checkSubject, Cond.selects RX0 yX0_checkSubject yX0_checkSubject, Cond.initialized RX0, Cond.code yX0_checkSubject cX0_checkSubject 2 none, Cond.classLink RX0 186 "java/lang/IndexOutOfBoundsException", Cond.initialized "java/lang/IndexOutOfBoundsException", Cond.methodLink RX0 183 yX0_rootsOf, Cond.instanceMethod yX0_rootsOf, Cond.selects RX0 yX0_rootsOf yX0_rootsOf, Cond.code yX0_rootsOf cX0_rootsOf 4 (some .int), Cond.fieldLink RX0 115 "Privacyledger" "recordCount" "I", Cond.fieldLink RX0 25 "Privacyledger" "subjectsOfRecord" "[I", Cond.methodLink RX0 95 yX0_isRoot, Cond.instanceMethod yX0_isRoot, Cond.selects RX0 yX0_isRoot yX0_isRoot, Cond.code yX0_isRoot cX0_isRoot 2 (some .boolean), Cond.fieldLink RX0 28 "Privacyledger" "sourcesOfRecord" "[I", Cond.methodLink RX0 65 yX0_has, Cond.static yX0_has, Cond.code yX0_has cX0_has 2 (some .boolean), Cond.methodLink RX0 55 yX0_bit, Cond.static yX0_bit]
def wsX0_tracesFromRoots_r2 : List Cond := [Cond.code yX0_bit cX0_bit 1 (some .int), Cond.methodLink RX0 103 yX0_withAllBelow, Cond.instanceMethod yX0_withAllBelow, Cond.selects RX0 yX0_withAllBelow yX0_withAllBelow, Cond.code yX0_withAllBelow cX0_withAllBelow 4 (some .int)]
def wsX0_tracesFromRoots : List Cond := .code yX0_tracesFromRoots cX0_tracesFromRoots 2 (some .int) :: ((wsX0_tracesFromRoots_r1 ++ wsX0_tracesFromRoots_r2) ++ wsX00 ++ (vx_atS RX0 190 "java/lang/IndexOutOfBoundsException" ["java/lang/RuntimeException", "java/lang/Exception"]).filter goodWord)
def wsX0_due_r1 : List Cond := [Cond.methodLink RX0 152 yX0_dueRecords, Cond.instanceMethod yX0_dueRecords, Cond.selects RX0 yX0_dueRecords yX0_dueRecords, Cond.initialized RX0, Cond.code yX0_dueRecords cX0_dueRecords 3 (some .int), Cond.fieldLink RX0 115 "Privacyledger" "recordCount" "I", Cond.fieldLink RX0 83 "Privacyledger" "presentRecords" "I", Cond.fieldLink RX0 22 "Privacyledger" "purposesOfRecord" "[I", Cond.fieldLink RX0 25 "Privacyledger" "subjectsOfRecord" "[I", Cond.fieldLink RX0 19 "Privacyledger" "dayAdded" "[I", Cond.methodLink RX0 65 yX0_has, Cond.static yX0_has, Cond.code yX0_has cX0_has 2 (some .boolean), Cond.methodLink RX0 55 yX0_bit, Cond.static yX0_bit, Cond.code yX0_bit cX0_bit 1 (some .int), Cond.methodLink RX0 208 yX0_isAnyOpen, Cond.instanceMethod yX0_isAnyOpen, Cond.selects RX0 yX0_isAnyOpen yX0_isAnyOpen, Cond.code yX0_isAnyOpen cX0_isAnyOpen 6 (some .boolean), Cond.fieldLink RX0 41 "Privacyledger" "purposeCount" "I", Cond.methodLink RX0 130 yX0_purposesAllowedBy, Cond.instanceMethod yX0_purposesAllowedBy, Cond.selects RX0 yX0_purposesAllowedBy yX0_purposesAllowedBy]
def wsX0_due_r2 : List Cond := [Cond.code yX0_purposesAllowedBy cX0_purposesAllowedBy 4 (some .int), Cond.fieldLink RX0 13 "Privacyledger" "consentsOfSubject" "[I", Cond.fieldLink RX0 52 "Privacyledger" "purposesWithoutConsent" "I", Cond.methodLink RX0 193 yX0_allPurposes, Cond.instanceMethod yX0_allPurposes, Cond.selects RX0 yX0_allPurposes yX0_allPurposes, Cond.code yX0_allPurposes cX0_allPurposes 1 (some .int), Cond.methodLink RX0 133 yX0_isRetained, Cond.instanceMethod yX0_isRetained, Cond.selects RX0 yX0_isRetained yX0_isRetained, Cond.code yX0_isRetained cX0_isRetained 3 (some .boolean), Cond.fieldLink RX0 149 "Privacyledger" "today" "I", Cond.fieldLink RX0 9 "Privacyledger" "retentionOfPurpose" "[I"]
def wsX0_due : List Cond := .code yX0_due cX0_due 1 (some .int) :: ((wsX0_due_r1 ++ wsX0_due_r2) ++ wsX00)
def wsX1_init : List Cond := .code yX1_init cX1_init 1 none :: ([.methodLink RX1 1 objectInit, .instanceMethod objectInit, .code objectInit ⟨#[0xb1]⟩ 1 none, .arrayClass .int, .fieldLink RX1 7 "PrivacyledgerModel" "retention" "[I", .arrayClass .boolean, .fieldLink RX1 13 "PrivacyledgerModel" "needs" "[Z", .fieldLink RX1 17 "PrivacyledgerModel" "consented" "[I", .fieldLink RX1 20 "PrivacyledgerModel" "days" "[I", .fieldLink RX1 23 "PrivacyledgerModel" "root" "[I", .fieldLink RX1 26 "PrivacyledgerModel" "sources" "[I", .fieldLink RX1 29 "PrivacyledgerModel" "goals" "[I", .fieldLink RX1 32 "PrivacyledgerModel" "added" "[I", .fieldLink RX1 35 "PrivacyledgerModel" "state" "[I", .fieldLink RX1 38 "PrivacyledgerModel" "used" "[I", .fieldLink RX1 41 "PrivacyledgerModel" "holds" "[I"] ++ wsX10)
def wsX1_thrown : List Cond := .code yX1_thrown cX1_thrown 1 (some .int) :: ([.fieldLink RX1 44 "PrivacyledgerModel" "thrown" "I"] ++ wsX10)
def wsX1_fails : List Cond := .code yX1_fails cX1_fails 2 (some .int) :: ([.fieldLink RX1 44 "PrivacyledgerModel" "thrown" "I"] ++ wsX10)
def wsX1_in : List Cond := .code yX1_in cX1_in 3 (some .boolean) :: ([])
def wsX1_has : List Cond := .code yX1_has cX1_has 2 (some .boolean) :: ([])
def wsX1_sizeOf : List Cond := .code yX1_sizeOf cX1_sizeOf 3 (some .int) :: ([])
def wsX1_isSubject : List Cond := .code yX1_isSubject cX1_isSubject 1 (some .boolean) :: ([.methodLink RX1 48 yX1_in, .static yX1_in, .initialized RX1, .code yX1_in cX1_in 3 (some .boolean)])
def wsX1_isPurpose : List Cond := .code yX1_isPurpose cX1_isPurpose 2 (some .boolean) :: ([.fieldLink RX1 52 "PrivacyledgerModel" "purposes" "I", .methodLink RX1 48 yX1_in, .static yX1_in, .initialized RX1, .code yX1_in cX1_in 3 (some .boolean)] ++ wsX10)
def wsX1_isRecord : List Cond := .code yX1_isRecord cX1_isRecord 2 (some .boolean) :: ([.fieldLink RX1 55 "PrivacyledgerModel" "many" "I", .methodLink RX1 48 yX1_in, .static yX1_in, .initialized RX1, .code yX1_in cX1_in 3 (some .boolean)] ++ wsX10)
def wsX1_isSet : List Cond := .code yX1_isSet cX1_isSet 2 (some .boolean) :: ([.fieldLink RX1 52 "PrivacyledgerModel" "purposes" "I", .methodLink RX1 48 yX1_in, .static yX1_in, .initialized RX1, .code yX1_in cX1_in 3 (some .boolean)] ++ wsX10)
def wsX1_addPurpose : List Cond := .code yX1_addPurpose cX1_addPurpose 3 (some .int) :: ([.fieldLink RX1 44 "PrivacyledgerModel" "thrown" "I", .fieldLink RX1 52 "PrivacyledgerModel" "purposes" "I", .fieldLink RX1 7 "PrivacyledgerModel" "retention" "[I", .fieldLink RX1 13 "PrivacyledgerModel" "needs" "[Z", .methodLink RX1 48 yX1_in, .static yX1_in, .initialized RX1, .code yX1_in cX1_in 3 (some .boolean), .methodLink RX1 58 yX1_fails, .instanceMethod yX1_fails, .selects RX1 yX1_fails yX1_fails, .code yX1_fails cX1_fails 2 (some .int)] ++ wsX10)
def wsX1_setRetention : List Cond := .code yX1_setRetention cX1_setRetention 4 (some .int) :: ([.fieldLink RX1 44 "PrivacyledgerModel" "thrown" "I", .fieldLink RX1 7 "PrivacyledgerModel" "retention" "[I", .methodLink RX1 62 yX1_isPurpose, .instanceMethod yX1_isPurpose, .selects RX1 yX1_isPurpose yX1_isPurpose, .initialized RX1, .code yX1_isPurpose cX1_isPurpose 2 (some .boolean), .fieldLink RX1 52 "PrivacyledgerModel" "purposes" "I", .methodLink RX1 48 yX1_in, .static yX1_in, .code yX1_in cX1_in 3 (some .boolean), .methodLink RX1 58 yX1_fails, .instanceMethod yX1_fails, .selects RX1 yX1_fails yX1_fails, .code yX1_fails cX1_fails 2 (some .int)] ++ wsX10)
def wsX1_consent : List Cond := .code yX1_consent cX1_consent 4 (some .boolean) :: ([.fieldLink RX1 44 "PrivacyledgerModel" "thrown" "I", .fieldLink RX1 17 "PrivacyledgerModel" "consented" "[I", .methodLink RX1 66 yX1_isSubject, .static yX1_isSubject, .initialized RX1, .code yX1_isSubject cX1_isSubject 1 (some .boolean), .methodLink RX1 48 yX1_in, .static yX1_in, .code yX1_in cX1_in 3 (some .boolean), .methodLink RX1 62 yX1_isPurpose, .instanceMethod yX1_isPurpose, .selects RX1 yX1_isPurpose yX1_isPurpose, .code yX1_isPurpose cX1_isPurpose 2 (some .boolean), .fieldLink RX1 52 "PrivacyledgerModel" "purposes" "I", .methodLink RX1 69 yX1_has, .static yX1_has, .code yX1_has cX1_has 2 (some .boolean)] ++ wsX10)
def wsX1_consents : List Cond := .code yX1_consents cX1_consents 2 (some .int) :: ([.fieldLink RX1 44 "PrivacyledgerModel" "thrown" "I", .fieldLink RX1 17 "PrivacyledgerModel" "consented" "[I", .methodLink RX1 66 yX1_isSubject, .static yX1_isSubject, .initialized RX1, .code yX1_isSubject cX1_isSubject 1 (some .boolean), .methodLink RX1 48 yX1_in, .static yX1_in, .code yX1_in cX1_in 3 (some .boolean), .methodLink RX1 58 yX1_fails, .instanceMethod yX1_fails, .selects RX1 yX1_fails yX1_fails, .code yX1_fails cX1_fails 2 (some .int)] ++ wsX10)
def wsX1_daysWithConsent : List Cond := .code yX1_daysWithConsent cX1_daysWithConsent 3 (some .int) :: ([.fieldLink RX1 44 "PrivacyledgerModel" "thrown" "I", .fieldLink RX1 20 "PrivacyledgerModel" "days" "[I", .methodLink RX1 66 yX1_isSubject, .static yX1_isSubject, .initialized RX1, .code yX1_isSubject cX1_isSubject 1 (some .boolean), .methodLink RX1 48 yX1_in, .static yX1_in, .code yX1_in cX1_in 3 (some .boolean), .methodLink RX1 62 yX1_isPurpose, .instanceMethod yX1_isPurpose, .selects RX1 yX1_isPurpose yX1_isPurpose, .code yX1_isPurpose cX1_isPurpose 2 (some .boolean), .fieldLink RX1 52 "PrivacyledgerModel" "purposes" "I", .methodLink RX1 58 yX1_fails, .instanceMethod yX1_fails, .selects RX1 yX1_fails yX1_fails, .code yX1_fails cX1_fails 2 (some .int)] ++ wsX10)
def wsX1_aboveOf : List Cond := .code yX1_aboveOf cX1_aboveOf 4 (some .int) :: ([.fieldLink RX1 26 "PrivacyledgerModel" "sources" "[I", .methodLink RX1 69 yX1_has, .static yX1_has, .initialized RX1, .code yX1_has cX1_has 2 (some .boolean)] ++ wsX10)
def wsX1_subjects : List Cond := .code yX1_subjects cX1_subjects 5 (some .int) :: ([.fieldLink RX1 26 "PrivacyledgerModel" "sources" "[I", .fieldLink RX1 23 "PrivacyledgerModel" "root" "[I", .methodLink RX1 73 yX1_aboveOf, .instanceMethod yX1_aboveOf, .selects RX1 yX1_aboveOf yX1_aboveOf, .initialized RX1, .code yX1_aboveOf cX1_aboveOf 4 (some .int), .methodLink RX1 69 yX1_has, .static yX1_has, .code yX1_has cX1_has 2 (some .boolean)] ++ wsX10)
def wsX1_belowOf : List Cond := .code yX1_belowOf cX1_belowOf 4 (some .int) :: ([.fieldLink RX1 55 "PrivacyledgerModel" "many" "I", .fieldLink RX1 26 "PrivacyledgerModel" "sources" "[I", .methodLink RX1 69 yX1_has, .static yX1_has, .initialized RX1, .code yX1_has cX1_has 2 (some .boolean)] ++ wsX10)
def wsX1_isAllowed : List Cond := .code yX1_isAllowed cX1_isAllowed 5 (some .boolean) :: ([.fieldLink RX1 13 "PrivacyledgerModel" "needs" "[Z", .fieldLink RX1 17 "PrivacyledgerModel" "consented" "[I", .methodLink RX1 69 yX1_has, .static yX1_has, .initialized RX1, .code yX1_has cX1_has 2 (some .boolean)] ++ wsX10)
def wsX1_endBy : List Cond := .code yX1_endBy cX1_endBy 6 (some .int) :: ([.fieldLink RX1 52 "PrivacyledgerModel" "purposes" "I", .fieldLink RX1 7 "PrivacyledgerModel" "retention" "[I", .methodLink RX1 69 yX1_has, .static yX1_has, .initialized RX1, .code yX1_has cX1_has 2 (some .boolean), .methodLink RX1 76 yX1_isAllowed, .instanceMethod yX1_isAllowed, .selects RX1 yX1_isAllowed yX1_isAllowed, .code yX1_isAllowed cX1_isAllowed 5 (some .boolean), .fieldLink RX1 13 "PrivacyledgerModel" "needs" "[Z", .fieldLink RX1 17 "PrivacyledgerModel" "consented" "[I"] ++ wsX10)
def wsX1_end_r1 : List Cond := [Cond.fieldLink RX1 29 "PrivacyledgerModel" "goals" "[I", Cond.fieldLink RX1 32 "PrivacyledgerModel" "added" "[I", Cond.methodLink RX1 79 yX1_subjects, Cond.instanceMethod yX1_subjects, Cond.selects RX1 yX1_subjects yX1_subjects, Cond.initialized RX1, Cond.code yX1_subjects cX1_subjects 5 (some .int), Cond.fieldLink RX1 26 "PrivacyledgerModel" "sources" "[I", Cond.fieldLink RX1 23 "PrivacyledgerModel" "root" "[I", Cond.methodLink RX1 73 yX1_aboveOf, Cond.instanceMethod yX1_aboveOf, Cond.selects RX1 yX1_aboveOf yX1_aboveOf, Cond.code yX1_aboveOf cX1_aboveOf 4 (some .int), Cond.methodLink RX1 69 yX1_has, Cond.static yX1_has, Cond.code yX1_has cX1_has 2 (some .boolean), Cond.methodLink RX1 82 yX1_endBy, Cond.instanceMethod yX1_endBy, Cond.selects RX1 yX1_endBy yX1_endBy, Cond.code yX1_endBy cX1_endBy 6 (some .int), Cond.fieldLink RX1 52 "PrivacyledgerModel" "purposes" "I", Cond.fieldLink RX1 7 "PrivacyledgerModel" "retention" "[I", Cond.methodLink RX1 76 yX1_isAllowed, Cond.instanceMethod yX1_isAllowed]
def wsX1_end_r2 : List Cond := [Cond.selects RX1 yX1_isAllowed yX1_isAllowed, Cond.code yX1_isAllowed cX1_isAllowed 5 (some .boolean), Cond.fieldLink RX1 13 "PrivacyledgerModel" "needs" "[Z", Cond.fieldLink RX1 17 "PrivacyledgerModel" "consented" "[I"]
def wsX1_end : List Cond := .code yX1_end cX1_end 2 (some .int) :: ((wsX1_end_r1 ++ wsX1_end_r2) ++ wsX10)
def wsX1_lays : List Cond := .code yX1_lays cX1_lays 4 (some .int) :: ([.fieldLink RX1 23 "PrivacyledgerModel" "root" "[I", .fieldLink RX1 55 "PrivacyledgerModel" "many" "I", .fieldLink RX1 26 "PrivacyledgerModel" "sources" "[I", .fieldLink RX1 29 "PrivacyledgerModel" "goals" "[I", .fieldLink RX1 32 "PrivacyledgerModel" "added" "[I", .fieldLink RX1 86 "PrivacyledgerModel" "today" "I", .fieldLink RX1 35 "PrivacyledgerModel" "state" "[I"] ++ wsX10)
def wsX1_add_r1 : List Cond := [Cond.fieldLink RX1 44 "PrivacyledgerModel" "thrown" "I", Cond.fieldLink RX1 55 "PrivacyledgerModel" "many" "I", Cond.fieldLink RX1 86 "PrivacyledgerModel" "today" "I", Cond.methodLink RX1 66 yX1_isSubject, Cond.static yX1_isSubject, Cond.initialized RX1, Cond.code yX1_isSubject cX1_isSubject 1 (some .boolean), Cond.methodLink RX1 48 yX1_in, Cond.static yX1_in, Cond.code yX1_in cX1_in 3 (some .boolean), Cond.methodLink RX1 89 yX1_isSet, Cond.instanceMethod yX1_isSet, Cond.selects RX1 yX1_isSet yX1_isSet, Cond.code yX1_isSet cX1_isSet 2 (some .boolean), Cond.fieldLink RX1 52 "PrivacyledgerModel" "purposes" "I", Cond.methodLink RX1 58 yX1_fails, Cond.instanceMethod yX1_fails, Cond.selects RX1 yX1_fails yX1_fails, Cond.code yX1_fails cX1_fails 2 (some .int), Cond.methodLink RX1 82 yX1_endBy, Cond.instanceMethod yX1_endBy, Cond.selects RX1 yX1_endBy yX1_endBy, Cond.code yX1_endBy cX1_endBy 6 (some .int), Cond.fieldLink RX1 7 "PrivacyledgerModel" "retention" "[I"]
def wsX1_add_r2 : List Cond := [Cond.methodLink RX1 69 yX1_has, Cond.static yX1_has, Cond.code yX1_has cX1_has 2 (some .boolean), Cond.methodLink RX1 76 yX1_isAllowed, Cond.instanceMethod yX1_isAllowed, Cond.selects RX1 yX1_isAllowed yX1_isAllowed, Cond.code yX1_isAllowed cX1_isAllowed 5 (some .boolean), Cond.fieldLink RX1 13 "PrivacyledgerModel" "needs" "[Z", Cond.fieldLink RX1 17 "PrivacyledgerModel" "consented" "[I", Cond.methodLink RX1 92 yX1_lays, Cond.instanceMethod yX1_lays, Cond.selects RX1 yX1_lays yX1_lays, Cond.code yX1_lays cX1_lays 4 (some .int), Cond.fieldLink RX1 23 "PrivacyledgerModel" "root" "[I", Cond.fieldLink RX1 26 "PrivacyledgerModel" "sources" "[I", Cond.fieldLink RX1 29 "PrivacyledgerModel" "goals" "[I", Cond.fieldLink RX1 32 "PrivacyledgerModel" "added" "[I", Cond.fieldLink RX1 35 "PrivacyledgerModel" "state" "[I"]
def wsX1_add : List Cond := .code yX1_add cX1_add 3 (some .int) :: ((wsX1_add_r1 ++ wsX1_add_r2) ++ wsX10)
def wsX1_derive_r1 : List Cond := [Cond.fieldLink RX1 44 "PrivacyledgerModel" "thrown" "I", Cond.fieldLink RX1 55 "PrivacyledgerModel" "many" "I", Cond.fieldLink RX1 35 "PrivacyledgerModel" "state" "[I", Cond.fieldLink RX1 86 "PrivacyledgerModel" "today" "I", Cond.methodLink RX1 95 yX1_isRecord, Cond.instanceMethod yX1_isRecord, Cond.selects RX1 yX1_isRecord yX1_isRecord, Cond.initialized RX1, Cond.code yX1_isRecord cX1_isRecord 2 (some .boolean), Cond.methodLink RX1 48 yX1_in, Cond.static yX1_in, Cond.code yX1_in cX1_in 3 (some .boolean), Cond.methodLink RX1 89 yX1_isSet, Cond.instanceMethod yX1_isSet, Cond.selects RX1 yX1_isSet yX1_isSet, Cond.code yX1_isSet cX1_isSet 2 (some .boolean), Cond.fieldLink RX1 52 "PrivacyledgerModel" "purposes" "I", Cond.methodLink RX1 58 yX1_fails, Cond.instanceMethod yX1_fails, Cond.selects RX1 yX1_fails yX1_fails, Cond.code yX1_fails cX1_fails 2 (some .int), Cond.methodLink RX1 79 yX1_subjects, Cond.instanceMethod yX1_subjects, Cond.selects RX1 yX1_subjects yX1_subjects]
def wsX1_derive_r2 : List Cond := [Cond.code yX1_subjects cX1_subjects 5 (some .int), Cond.fieldLink RX1 26 "PrivacyledgerModel" "sources" "[I", Cond.fieldLink RX1 23 "PrivacyledgerModel" "root" "[I", Cond.methodLink RX1 73 yX1_aboveOf, Cond.instanceMethod yX1_aboveOf, Cond.selects RX1 yX1_aboveOf yX1_aboveOf, Cond.code yX1_aboveOf cX1_aboveOf 4 (some .int), Cond.methodLink RX1 69 yX1_has, Cond.static yX1_has, Cond.code yX1_has cX1_has 2 (some .boolean), Cond.methodLink RX1 82 yX1_endBy, Cond.instanceMethod yX1_endBy, Cond.selects RX1 yX1_endBy yX1_endBy, Cond.code yX1_endBy cX1_endBy 6 (some .int), Cond.fieldLink RX1 7 "PrivacyledgerModel" "retention" "[I", Cond.methodLink RX1 76 yX1_isAllowed, Cond.instanceMethod yX1_isAllowed, Cond.selects RX1 yX1_isAllowed yX1_isAllowed, Cond.code yX1_isAllowed cX1_isAllowed 5 (some .boolean), Cond.fieldLink RX1 13 "PrivacyledgerModel" "needs" "[Z", Cond.fieldLink RX1 17 "PrivacyledgerModel" "consented" "[I", Cond.methodLink RX1 92 yX1_lays, Cond.instanceMethod yX1_lays, Cond.selects RX1 yX1_lays yX1_lays]
def wsX1_derive_r3 : List Cond := [Cond.code yX1_lays cX1_lays 4 (some .int), Cond.fieldLink RX1 29 "PrivacyledgerModel" "goals" "[I", Cond.fieldLink RX1 32 "PrivacyledgerModel" "added" "[I"]
def wsX1_derive : List Cond := .code yX1_derive cX1_derive 3 (some .int) :: ((wsX1_derive_r1 ++ (wsX1_derive_r2 ++ wsX1_derive_r3)) ++ wsX10)
def wsX1_addSource_r1 : List Cond := [Cond.fieldLink RX1 44 "PrivacyledgerModel" "thrown" "I", Cond.fieldLink RX1 26 "PrivacyledgerModel" "sources" "[I", Cond.fieldLink RX1 35 "PrivacyledgerModel" "state" "[I", Cond.methodLink RX1 95 yX1_isRecord, Cond.instanceMethod yX1_isRecord, Cond.selects RX1 yX1_isRecord yX1_isRecord, Cond.initialized RX1, Cond.code yX1_isRecord cX1_isRecord 2 (some .boolean), Cond.fieldLink RX1 55 "PrivacyledgerModel" "many" "I", Cond.methodLink RX1 48 yX1_in, Cond.static yX1_in, Cond.code yX1_in cX1_in 3 (some .boolean), Cond.methodLink RX1 58 yX1_fails, Cond.instanceMethod yX1_fails, Cond.selects RX1 yX1_fails yX1_fails, Cond.code yX1_fails cX1_fails 2 (some .int), Cond.methodLink RX1 69 yX1_has, Cond.static yX1_has, Cond.code yX1_has cX1_has 2 (some .boolean), Cond.methodLink RX1 79 yX1_subjects, Cond.instanceMethod yX1_subjects, Cond.selects RX1 yX1_subjects yX1_subjects, Cond.code yX1_subjects cX1_subjects 5 (some .int), Cond.fieldLink RX1 23 "PrivacyledgerModel" "root" "[I"]
def wsX1_addSource_r2 : List Cond := [Cond.methodLink RX1 73 yX1_aboveOf, Cond.instanceMethod yX1_aboveOf, Cond.selects RX1 yX1_aboveOf yX1_aboveOf, Cond.code yX1_aboveOf cX1_aboveOf 4 (some .int), Cond.methodLink RX1 98 yX1_sizeOf, Cond.static yX1_sizeOf, Cond.code yX1_sizeOf cX1_sizeOf 3 (some .int)]
def wsX1_addSource : List Cond := .code yX1_addSource cX1_addSource 3 (some .int) :: ((wsX1_addSource_r1 ++ wsX1_addSource_r2) ++ wsX10)
def wsX1_records : List Cond := .code yX1_records cX1_records 1 (some .int) :: ([.fieldLink RX1 44 "PrivacyledgerModel" "thrown" "I", .fieldLink RX1 55 "PrivacyledgerModel" "many" "I"] ++ wsX10)
def wsX1_stateOf : List Cond := .code yX1_stateOf cX1_stateOf 2 (some .int) :: ([.fieldLink RX1 44 "PrivacyledgerModel" "thrown" "I", .fieldLink RX1 35 "PrivacyledgerModel" "state" "[I", .methodLink RX1 95 yX1_isRecord, .instanceMethod yX1_isRecord, .selects RX1 yX1_isRecord yX1_isRecord, .initialized RX1, .code yX1_isRecord cX1_isRecord 2 (some .boolean), .fieldLink RX1 55 "PrivacyledgerModel" "many" "I", .methodLink RX1 48 yX1_in, .static yX1_in, .code yX1_in cX1_in 3 (some .boolean), .methodLink RX1 58 yX1_fails, .instanceMethod yX1_fails, .selects RX1 yX1_fails yX1_fails, .code yX1_fails cX1_fails 2 (some .int)] ++ wsX10)
def wsX1_subjectsOf_r1 : List Cond := [Cond.fieldLink RX1 44 "PrivacyledgerModel" "thrown" "I", Cond.methodLink RX1 95 yX1_isRecord, Cond.instanceMethod yX1_isRecord, Cond.selects RX1 yX1_isRecord yX1_isRecord, Cond.initialized RX1, Cond.code yX1_isRecord cX1_isRecord 2 (some .boolean), Cond.fieldLink RX1 55 "PrivacyledgerModel" "many" "I", Cond.methodLink RX1 48 yX1_in, Cond.static yX1_in, Cond.code yX1_in cX1_in 3 (some .boolean), Cond.methodLink RX1 79 yX1_subjects, Cond.instanceMethod yX1_subjects, Cond.selects RX1 yX1_subjects yX1_subjects, Cond.code yX1_subjects cX1_subjects 5 (some .int), Cond.fieldLink RX1 26 "PrivacyledgerModel" "sources" "[I", Cond.fieldLink RX1 23 "PrivacyledgerModel" "root" "[I", Cond.methodLink RX1 73 yX1_aboveOf, Cond.instanceMethod yX1_aboveOf, Cond.selects RX1 yX1_aboveOf yX1_aboveOf, Cond.code yX1_aboveOf cX1_aboveOf 4 (some .int), Cond.methodLink RX1 69 yX1_has, Cond.static yX1_has, Cond.code yX1_has cX1_has 2 (some .boolean), Cond.methodLink RX1 58 yX1_fails]
def wsX1_subjectsOf_r2 : List Cond := [Cond.instanceMethod yX1_fails, Cond.selects RX1 yX1_fails yX1_fails, Cond.code yX1_fails cX1_fails 2 (some .int)]
def wsX1_subjectsOf : List Cond := .code yX1_subjectsOf cX1_subjectsOf 2 (some .int) :: ((wsX1_subjectsOf_r1 ++ wsX1_subjectsOf_r2) ++ wsX10)
def wsX1_below : List Cond := .code yX1_below cX1_below 2 (some .int) :: ([.fieldLink RX1 44 "PrivacyledgerModel" "thrown" "I", .methodLink RX1 95 yX1_isRecord, .instanceMethod yX1_isRecord, .selects RX1 yX1_isRecord yX1_isRecord, .initialized RX1, .code yX1_isRecord cX1_isRecord 2 (some .boolean), .fieldLink RX1 55 "PrivacyledgerModel" "many" "I", .methodLink RX1 48 yX1_in, .static yX1_in, .code yX1_in cX1_in 3 (some .boolean), .methodLink RX1 101 yX1_belowOf, .instanceMethod yX1_belowOf, .selects RX1 yX1_belowOf yX1_belowOf, .code yX1_belowOf cX1_belowOf 4 (some .int), .fieldLink RX1 26 "PrivacyledgerModel" "sources" "[I", .methodLink RX1 69 yX1_has, .static yX1_has, .code yX1_has cX1_has 2 (some .boolean), .methodLink RX1 58 yX1_fails, .instanceMethod yX1_fails, .selects RX1 yX1_fails yX1_fails, .code yX1_fails cX1_fails 2 (some .int)] ++ wsX10)
def wsX1_endOf_r1 : List Cond := [Cond.fieldLink RX1 44 "PrivacyledgerModel" "thrown" "I", Cond.methodLink RX1 95 yX1_isRecord, Cond.instanceMethod yX1_isRecord, Cond.selects RX1 yX1_isRecord yX1_isRecord, Cond.initialized RX1, Cond.code yX1_isRecord cX1_isRecord 2 (some .boolean), Cond.fieldLink RX1 55 "PrivacyledgerModel" "many" "I", Cond.methodLink RX1 48 yX1_in, Cond.static yX1_in, Cond.code yX1_in cX1_in 3 (some .boolean), Cond.methodLink RX1 104 yX1_end, Cond.instanceMethod yX1_end, Cond.selects RX1 yX1_end yX1_end, Cond.code yX1_end cX1_end 2 (some .int), Cond.fieldLink RX1 29 "PrivacyledgerModel" "goals" "[I", Cond.fieldLink RX1 32 "PrivacyledgerModel" "added" "[I", Cond.methodLink RX1 79 yX1_subjects, Cond.instanceMethod yX1_subjects, Cond.selects RX1 yX1_subjects yX1_subjects, Cond.code yX1_subjects cX1_subjects 5 (some .int), Cond.fieldLink RX1 26 "PrivacyledgerModel" "sources" "[I", Cond.fieldLink RX1 23 "PrivacyledgerModel" "root" "[I", Cond.methodLink RX1 73 yX1_aboveOf, Cond.instanceMethod yX1_aboveOf]
def wsX1_endOf_r2 : List Cond := [Cond.selects RX1 yX1_aboveOf yX1_aboveOf, Cond.code yX1_aboveOf cX1_aboveOf 4 (some .int), Cond.methodLink RX1 69 yX1_has, Cond.static yX1_has, Cond.code yX1_has cX1_has 2 (some .boolean), Cond.methodLink RX1 82 yX1_endBy, Cond.instanceMethod yX1_endBy, Cond.selects RX1 yX1_endBy yX1_endBy, Cond.code yX1_endBy cX1_endBy 6 (some .int), Cond.fieldLink RX1 52 "PrivacyledgerModel" "purposes" "I", Cond.fieldLink RX1 7 "PrivacyledgerModel" "retention" "[I", Cond.methodLink RX1 76 yX1_isAllowed, Cond.instanceMethod yX1_isAllowed, Cond.selects RX1 yX1_isAllowed yX1_isAllowed, Cond.code yX1_isAllowed cX1_isAllowed 5 (some .boolean), Cond.fieldLink RX1 13 "PrivacyledgerModel" "needs" "[Z", Cond.fieldLink RX1 17 "PrivacyledgerModel" "consented" "[I", Cond.methodLink RX1 58 yX1_fails, Cond.instanceMethod yX1_fails, Cond.selects RX1 yX1_fails yX1_fails, Cond.code yX1_fails cX1_fails 2 (some .int)]
def wsX1_endOf : List Cond := .code yX1_endOf cX1_endOf 2 (some .int) :: ((wsX1_endOf_r1 ++ wsX1_endOf_r2) ++ wsX10)
def wsX1_reason_r1 : List Cond := [Cond.fieldLink RX1 35 "PrivacyledgerModel" "state" "[I", Cond.fieldLink RX1 29 "PrivacyledgerModel" "goals" "[I", Cond.fieldLink RX1 86 "PrivacyledgerModel" "today" "I", Cond.fieldLink RX1 32 "PrivacyledgerModel" "added" "[I", Cond.fieldLink RX1 7 "PrivacyledgerModel" "retention" "[I", Cond.methodLink RX1 69 yX1_has, Cond.static yX1_has, Cond.initialized RX1, Cond.code yX1_has cX1_has 2 (some .boolean), Cond.methodLink RX1 79 yX1_subjects, Cond.instanceMethod yX1_subjects, Cond.selects RX1 yX1_subjects yX1_subjects, Cond.code yX1_subjects cX1_subjects 5 (some .int), Cond.fieldLink RX1 26 "PrivacyledgerModel" "sources" "[I", Cond.fieldLink RX1 23 "PrivacyledgerModel" "root" "[I", Cond.methodLink RX1 73 yX1_aboveOf, Cond.instanceMethod yX1_aboveOf, Cond.selects RX1 yX1_aboveOf yX1_aboveOf, Cond.code yX1_aboveOf cX1_aboveOf 4 (some .int), Cond.methodLink RX1 76 yX1_isAllowed, Cond.instanceMethod yX1_isAllowed, Cond.selects RX1 yX1_isAllowed yX1_isAllowed, Cond.code yX1_isAllowed cX1_isAllowed 5 (some .boolean), Cond.fieldLink RX1 13 "PrivacyledgerModel" "needs" "[Z"]
def wsX1_reason_r2 : List Cond := [Cond.fieldLink RX1 17 "PrivacyledgerModel" "consented" "[I"]
def wsX1_reason : List Cond := .code yX1_reason cX1_reason 3 (some .int) :: ((wsX1_reason_r1 ++ wsX1_reason_r2) ++ wsX10)
def wsX1_whyNoUse_r1 : List Cond := [Cond.fieldLink RX1 44 "PrivacyledgerModel" "thrown" "I", Cond.methodLink RX1 95 yX1_isRecord, Cond.instanceMethod yX1_isRecord, Cond.selects RX1 yX1_isRecord yX1_isRecord, Cond.initialized RX1, Cond.code yX1_isRecord cX1_isRecord 2 (some .boolean), Cond.fieldLink RX1 55 "PrivacyledgerModel" "many" "I", Cond.methodLink RX1 48 yX1_in, Cond.static yX1_in, Cond.code yX1_in cX1_in 3 (some .boolean), Cond.methodLink RX1 62 yX1_isPurpose, Cond.instanceMethod yX1_isPurpose, Cond.selects RX1 yX1_isPurpose yX1_isPurpose, Cond.code yX1_isPurpose cX1_isPurpose 2 (some .boolean), Cond.fieldLink RX1 52 "PrivacyledgerModel" "purposes" "I", Cond.methodLink RX1 107 yX1_reason, Cond.instanceMethod yX1_reason, Cond.selects RX1 yX1_reason yX1_reason, Cond.code yX1_reason cX1_reason 3 (some .int), Cond.fieldLink RX1 35 "PrivacyledgerModel" "state" "[I", Cond.fieldLink RX1 29 "PrivacyledgerModel" "goals" "[I", Cond.fieldLink RX1 86 "PrivacyledgerModel" "today" "I", Cond.fieldLink RX1 32 "PrivacyledgerModel" "added" "[I", Cond.fieldLink RX1 7 "PrivacyledgerModel" "retention" "[I"]
def wsX1_whyNoUse_r2 : List Cond := [Cond.methodLink RX1 69 yX1_has, Cond.static yX1_has, Cond.code yX1_has cX1_has 2 (some .boolean), Cond.methodLink RX1 79 yX1_subjects, Cond.instanceMethod yX1_subjects, Cond.selects RX1 yX1_subjects yX1_subjects, Cond.code yX1_subjects cX1_subjects 5 (some .int), Cond.fieldLink RX1 26 "PrivacyledgerModel" "sources" "[I", Cond.fieldLink RX1 23 "PrivacyledgerModel" "root" "[I", Cond.methodLink RX1 73 yX1_aboveOf, Cond.instanceMethod yX1_aboveOf, Cond.selects RX1 yX1_aboveOf yX1_aboveOf, Cond.code yX1_aboveOf cX1_aboveOf 4 (some .int), Cond.methodLink RX1 76 yX1_isAllowed, Cond.instanceMethod yX1_isAllowed, Cond.selects RX1 yX1_isAllowed yX1_isAllowed, Cond.code yX1_isAllowed cX1_isAllowed 5 (some .boolean), Cond.fieldLink RX1 13 "PrivacyledgerModel" "needs" "[Z", Cond.fieldLink RX1 17 "PrivacyledgerModel" "consented" "[I", Cond.methodLink RX1 58 yX1_fails, Cond.instanceMethod yX1_fails, Cond.selects RX1 yX1_fails yX1_fails, Cond.code yX1_fails cX1_fails 2 (some .int)]
def wsX1_whyNoUse : List Cond := .code yX1_whyNoUse cX1_whyNoUse 3 (some .int) :: ((wsX1_whyNoUse_r1 ++ wsX1_whyNoUse_r2) ++ wsX10)
def wsX1_use_r1 : List Cond := [Cond.fieldLink RX1 44 "PrivacyledgerModel" "thrown" "I", Cond.fieldLink RX1 38 "PrivacyledgerModel" "used" "[I", Cond.methodLink RX1 95 yX1_isRecord, Cond.instanceMethod yX1_isRecord, Cond.selects RX1 yX1_isRecord yX1_isRecord, Cond.initialized RX1, Cond.code yX1_isRecord cX1_isRecord 2 (some .boolean), Cond.fieldLink RX1 55 "PrivacyledgerModel" "many" "I", Cond.methodLink RX1 48 yX1_in, Cond.static yX1_in, Cond.code yX1_in cX1_in 3 (some .boolean), Cond.methodLink RX1 62 yX1_isPurpose, Cond.instanceMethod yX1_isPurpose, Cond.selects RX1 yX1_isPurpose yX1_isPurpose, Cond.code yX1_isPurpose cX1_isPurpose 2 (some .boolean), Cond.fieldLink RX1 52 "PrivacyledgerModel" "purposes" "I", Cond.methodLink RX1 58 yX1_fails, Cond.instanceMethod yX1_fails, Cond.selects RX1 yX1_fails yX1_fails, Cond.code yX1_fails cX1_fails 2 (some .int), Cond.methodLink RX1 107 yX1_reason, Cond.instanceMethod yX1_reason, Cond.selects RX1 yX1_reason yX1_reason, Cond.code yX1_reason cX1_reason 3 (some .int)]
def wsX1_use_r2 : List Cond := [Cond.fieldLink RX1 35 "PrivacyledgerModel" "state" "[I", Cond.fieldLink RX1 29 "PrivacyledgerModel" "goals" "[I", Cond.fieldLink RX1 86 "PrivacyledgerModel" "today" "I", Cond.fieldLink RX1 32 "PrivacyledgerModel" "added" "[I", Cond.fieldLink RX1 7 "PrivacyledgerModel" "retention" "[I", Cond.methodLink RX1 69 yX1_has, Cond.static yX1_has, Cond.code yX1_has cX1_has 2 (some .boolean), Cond.methodLink RX1 79 yX1_subjects, Cond.instanceMethod yX1_subjects, Cond.selects RX1 yX1_subjects yX1_subjects, Cond.code yX1_subjects cX1_subjects 5 (some .int), Cond.fieldLink RX1 26 "PrivacyledgerModel" "sources" "[I", Cond.fieldLink RX1 23 "PrivacyledgerModel" "root" "[I", Cond.methodLink RX1 73 yX1_aboveOf, Cond.instanceMethod yX1_aboveOf, Cond.selects RX1 yX1_aboveOf yX1_aboveOf, Cond.code yX1_aboveOf cX1_aboveOf 4 (some .int), Cond.methodLink RX1 76 yX1_isAllowed, Cond.instanceMethod yX1_isAllowed, Cond.selects RX1 yX1_isAllowed yX1_isAllowed, Cond.code yX1_isAllowed cX1_isAllowed 5 (some .boolean), Cond.fieldLink RX1 13 "PrivacyledgerModel" "needs" "[Z", Cond.fieldLink RX1 17 "PrivacyledgerModel" "consented" "[I"]
def wsX1_use : List Cond := .code yX1_use cX1_use 3 (some .int) :: ((wsX1_use_r1 ++ wsX1_use_r2) ++ wsX10)
def wsX1_uses_r1 : List Cond := [Cond.fieldLink RX1 44 "PrivacyledgerModel" "thrown" "I", Cond.fieldLink RX1 55 "PrivacyledgerModel" "many" "I", Cond.fieldLink RX1 38 "PrivacyledgerModel" "used" "[I", Cond.methodLink RX1 66 yX1_isSubject, Cond.static yX1_isSubject, Cond.initialized RX1, Cond.code yX1_isSubject cX1_isSubject 1 (some .boolean), Cond.methodLink RX1 48 yX1_in, Cond.static yX1_in, Cond.code yX1_in cX1_in 3 (some .boolean), Cond.methodLink RX1 62 yX1_isPurpose, Cond.instanceMethod yX1_isPurpose, Cond.selects RX1 yX1_isPurpose yX1_isPurpose, Cond.code yX1_isPurpose cX1_isPurpose 2 (some .boolean), Cond.fieldLink RX1 52 "PrivacyledgerModel" "purposes" "I", Cond.methodLink RX1 58 yX1_fails, Cond.instanceMethod yX1_fails, Cond.selects RX1 yX1_fails yX1_fails, Cond.code yX1_fails cX1_fails 2 (some .int), Cond.methodLink RX1 79 yX1_subjects, Cond.instanceMethod yX1_subjects, Cond.selects RX1 yX1_subjects yX1_subjects, Cond.code yX1_subjects cX1_subjects 5 (some .int), Cond.fieldLink RX1 26 "PrivacyledgerModel" "sources" "[I"]
def wsX1_uses_r2 : List Cond := [Cond.fieldLink RX1 23 "PrivacyledgerModel" "root" "[I", Cond.methodLink RX1 73 yX1_aboveOf, Cond.instanceMethod yX1_aboveOf, Cond.selects RX1 yX1_aboveOf yX1_aboveOf, Cond.code yX1_aboveOf cX1_aboveOf 4 (some .int), Cond.methodLink RX1 69 yX1_has, Cond.static yX1_has, Cond.code yX1_has cX1_has 2 (some .boolean)]
def wsX1_uses : List Cond := .code yX1_uses cX1_uses 5 (some .int) :: ((wsX1_uses_r1 ++ wsX1_uses_r2) ++ wsX10)
def wsX1_asks : List Cond := .code yX1_asks cX1_asks 5 (some .int) :: ([.fieldLink RX1 35 "PrivacyledgerModel" "state" "[I", .fieldLink RX1 55 "PrivacyledgerModel" "many" "I", .methodLink RX1 101 yX1_belowOf, .instanceMethod yX1_belowOf, .selects RX1 yX1_belowOf yX1_belowOf, .initialized RX1, .code yX1_belowOf cX1_belowOf 4 (some .int), .fieldLink RX1 26 "PrivacyledgerModel" "sources" "[I", .methodLink RX1 69 yX1_has, .static yX1_has, .code yX1_has cX1_has 2 (some .boolean)] ++ wsX10)
def wsX1_dueSet_r1 : List Cond := [Cond.fieldLink RX1 55 "PrivacyledgerModel" "many" "I", Cond.fieldLink RX1 35 "PrivacyledgerModel" "state" "[I", Cond.fieldLink RX1 86 "PrivacyledgerModel" "today" "I", Cond.methodLink RX1 104 yX1_end, Cond.instanceMethod yX1_end, Cond.selects RX1 yX1_end yX1_end, Cond.initialized RX1, Cond.code yX1_end cX1_end 2 (some .int), Cond.fieldLink RX1 29 "PrivacyledgerModel" "goals" "[I", Cond.fieldLink RX1 32 "PrivacyledgerModel" "added" "[I", Cond.methodLink RX1 79 yX1_subjects, Cond.instanceMethod yX1_subjects, Cond.selects RX1 yX1_subjects yX1_subjects, Cond.code yX1_subjects cX1_subjects 5 (some .int), Cond.fieldLink RX1 26 "PrivacyledgerModel" "sources" "[I", Cond.fieldLink RX1 23 "PrivacyledgerModel" "root" "[I", Cond.methodLink RX1 73 yX1_aboveOf, Cond.instanceMethod yX1_aboveOf, Cond.selects RX1 yX1_aboveOf yX1_aboveOf, Cond.code yX1_aboveOf cX1_aboveOf 4 (some .int), Cond.methodLink RX1 69 yX1_has, Cond.static yX1_has, Cond.code yX1_has cX1_has 2 (some .boolean), Cond.methodLink RX1 82 yX1_endBy]
def wsX1_dueSet_r2 : List Cond := [Cond.instanceMethod yX1_endBy, Cond.selects RX1 yX1_endBy yX1_endBy, Cond.code yX1_endBy cX1_endBy 6 (some .int), Cond.fieldLink RX1 52 "PrivacyledgerModel" "purposes" "I", Cond.fieldLink RX1 7 "PrivacyledgerModel" "retention" "[I", Cond.methodLink RX1 76 yX1_isAllowed, Cond.instanceMethod yX1_isAllowed, Cond.selects RX1 yX1_isAllowed yX1_isAllowed, Cond.code yX1_isAllowed cX1_isAllowed 5 (some .boolean), Cond.fieldLink RX1 13 "PrivacyledgerModel" "needs" "[Z", Cond.fieldLink RX1 17 "PrivacyledgerModel" "consented" "[I"]
def wsX1_dueSet : List Cond := .code yX1_dueSet cX1_dueSet 3 (some .int) :: ((wsX1_dueSet_r1 ++ wsX1_dueSet_r2) ++ wsX10)
def wsX1_passDays_r1 : List Cond := [Cond.fieldLink RX1 44 "PrivacyledgerModel" "thrown" "I", Cond.fieldLink RX1 20 "PrivacyledgerModel" "days" "[I", Cond.fieldLink RX1 17 "PrivacyledgerModel" "consented" "[I", Cond.fieldLink RX1 86 "PrivacyledgerModel" "today" "I", Cond.fieldLink RX1 55 "PrivacyledgerModel" "many" "I", Cond.methodLink RX1 48 yX1_in, Cond.static yX1_in, Cond.initialized RX1, Cond.code yX1_in cX1_in 3 (some .boolean), Cond.methodLink RX1 58 yX1_fails, Cond.instanceMethod yX1_fails, Cond.selects RX1 yX1_fails yX1_fails, Cond.code yX1_fails cX1_fails 2 (some .int), Cond.methodLink RX1 69 yX1_has, Cond.static yX1_has, Cond.code yX1_has cX1_has 2 (some .boolean), Cond.methodLink RX1 111 yX1_dueSet, Cond.instanceMethod yX1_dueSet, Cond.selects RX1 yX1_dueSet yX1_dueSet, Cond.code yX1_dueSet cX1_dueSet 3 (some .int), Cond.fieldLink RX1 35 "PrivacyledgerModel" "state" "[I", Cond.methodLink RX1 104 yX1_end, Cond.instanceMethod yX1_end, Cond.selects RX1 yX1_end yX1_end]
def wsX1_passDays_r2 : List Cond := [Cond.code yX1_end cX1_end 2 (some .int), Cond.fieldLink RX1 29 "PrivacyledgerModel" "goals" "[I", Cond.fieldLink RX1 32 "PrivacyledgerModel" "added" "[I", Cond.methodLink RX1 79 yX1_subjects, Cond.instanceMethod yX1_subjects, Cond.selects RX1 yX1_subjects yX1_subjects, Cond.code yX1_subjects cX1_subjects 5 (some .int), Cond.fieldLink RX1 26 "PrivacyledgerModel" "sources" "[I", Cond.fieldLink RX1 23 "PrivacyledgerModel" "root" "[I", Cond.methodLink RX1 73 yX1_aboveOf, Cond.instanceMethod yX1_aboveOf, Cond.selects RX1 yX1_aboveOf yX1_aboveOf, Cond.code yX1_aboveOf cX1_aboveOf 4 (some .int), Cond.methodLink RX1 82 yX1_endBy, Cond.instanceMethod yX1_endBy, Cond.selects RX1 yX1_endBy yX1_endBy, Cond.code yX1_endBy cX1_endBy 6 (some .int), Cond.fieldLink RX1 52 "PrivacyledgerModel" "purposes" "I", Cond.fieldLink RX1 7 "PrivacyledgerModel" "retention" "[I", Cond.methodLink RX1 76 yX1_isAllowed, Cond.instanceMethod yX1_isAllowed, Cond.selects RX1 yX1_isAllowed yX1_isAllowed, Cond.code yX1_isAllowed cX1_isAllowed 5 (some .boolean), Cond.fieldLink RX1 13 "PrivacyledgerModel" "needs" "[Z"]
def wsX1_passDays_r3 : List Cond := [Cond.methodLink RX1 115 yX1_asks, Cond.instanceMethod yX1_asks, Cond.selects RX1 yX1_asks yX1_asks, Cond.code yX1_asks cX1_asks 5 (some .int), Cond.methodLink RX1 101 yX1_belowOf, Cond.instanceMethod yX1_belowOf, Cond.selects RX1 yX1_belowOf yX1_belowOf, Cond.code yX1_belowOf cX1_belowOf 4 (some .int)]
def wsX1_passDays : List Cond := .code yX1_passDays cX1_passDays 5 (some .int) :: ((wsX1_passDays_r1 ++ (wsX1_passDays_r2 ++ wsX1_passDays_r3)) ++ wsX10)
def wsX1_day : List Cond := .code yX1_day cX1_day 1 (some .int) :: ([.fieldLink RX1 44 "PrivacyledgerModel" "thrown" "I", .fieldLink RX1 86 "PrivacyledgerModel" "today" "I"] ++ wsX10)
def wsX1_nextEnd_r1 : List Cond := [Cond.fieldLink RX1 44 "PrivacyledgerModel" "thrown" "I", Cond.fieldLink RX1 55 "PrivacyledgerModel" "many" "I", Cond.fieldLink RX1 35 "PrivacyledgerModel" "state" "[I", Cond.methodLink RX1 104 yX1_end, Cond.instanceMethod yX1_end, Cond.selects RX1 yX1_end yX1_end, Cond.initialized RX1, Cond.code yX1_end cX1_end 2 (some .int), Cond.fieldLink RX1 29 "PrivacyledgerModel" "goals" "[I", Cond.fieldLink RX1 32 "PrivacyledgerModel" "added" "[I", Cond.methodLink RX1 79 yX1_subjects, Cond.instanceMethod yX1_subjects, Cond.selects RX1 yX1_subjects yX1_subjects, Cond.code yX1_subjects cX1_subjects 5 (some .int), Cond.fieldLink RX1 26 "PrivacyledgerModel" "sources" "[I", Cond.fieldLink RX1 23 "PrivacyledgerModel" "root" "[I", Cond.methodLink RX1 73 yX1_aboveOf, Cond.instanceMethod yX1_aboveOf, Cond.selects RX1 yX1_aboveOf yX1_aboveOf, Cond.code yX1_aboveOf cX1_aboveOf 4 (some .int), Cond.methodLink RX1 69 yX1_has, Cond.static yX1_has, Cond.code yX1_has cX1_has 2 (some .boolean), Cond.methodLink RX1 82 yX1_endBy]
def wsX1_nextEnd_r2 : List Cond := [Cond.instanceMethod yX1_endBy, Cond.selects RX1 yX1_endBy yX1_endBy, Cond.code yX1_endBy cX1_endBy 6 (some .int), Cond.fieldLink RX1 52 "PrivacyledgerModel" "purposes" "I", Cond.fieldLink RX1 7 "PrivacyledgerModel" "retention" "[I", Cond.methodLink RX1 76 yX1_isAllowed, Cond.instanceMethod yX1_isAllowed, Cond.selects RX1 yX1_isAllowed yX1_isAllowed, Cond.code yX1_isAllowed cX1_isAllowed 5 (some .boolean), Cond.fieldLink RX1 13 "PrivacyledgerModel" "needs" "[Z", Cond.fieldLink RX1 17 "PrivacyledgerModel" "consented" "[I"]
def wsX1_nextEnd : List Cond := .code yX1_nextEnd cX1_nextEnd 3 (some .int) :: ((wsX1_nextEnd_r1 ++ wsX1_nextEnd_r2) ++ wsX10)
def wsX1_heldSet : List Cond := .code yX1_heldSet cX1_heldSet 3 (some .int) :: ([.fieldLink RX1 41 "PrivacyledgerModel" "holds" "[I"] ++ wsX10)
def wsX1_hold : List Cond := .code yX1_hold cX1_hold 3 (some .int) :: ([.fieldLink RX1 44 "PrivacyledgerModel" "thrown" "I", .fieldLink RX1 35 "PrivacyledgerModel" "state" "[I", .fieldLink RX1 41 "PrivacyledgerModel" "holds" "[I", .methodLink RX1 48 yX1_in, .static yX1_in, .initialized RX1, .code yX1_in cX1_in 3 (some .boolean), .methodLink RX1 95 yX1_isRecord, .instanceMethod yX1_isRecord, .selects RX1 yX1_isRecord yX1_isRecord, .code yX1_isRecord cX1_isRecord 2 (some .boolean), .fieldLink RX1 55 "PrivacyledgerModel" "many" "I", .methodLink RX1 58 yX1_fails, .instanceMethod yX1_fails, .selects RX1 yX1_fails yX1_fails, .code yX1_fails cX1_fails 2 (some .int), .methodLink RX1 69 yX1_has, .static yX1_has, .code yX1_has cX1_has 2 (some .boolean), .methodLink RX1 98 yX1_sizeOf, .static yX1_sizeOf, .code yX1_sizeOf cX1_sizeOf 3 (some .int)] ++ wsX10)
def wsX1_close : List Cond := .code yX1_close cX1_close 3 (some .int) :: ([.fieldLink RX1 44 "PrivacyledgerModel" "thrown" "I", .fieldLink RX1 41 "PrivacyledgerModel" "holds" "[I", .methodLink RX1 48 yX1_in, .static yX1_in, .initialized RX1, .code yX1_in cX1_in 3 (some .boolean), .methodLink RX1 58 yX1_fails, .instanceMethod yX1_fails, .selects RX1 yX1_fails yX1_fails, .code yX1_fails cX1_fails 2 (some .int), .methodLink RX1 118 yX1_heldSet, .instanceMethod yX1_heldSet, .selects RX1 yX1_heldSet yX1_heldSet, .code yX1_heldSet cX1_heldSet 3 (some .int), .methodLink RX1 98 yX1_sizeOf, .static yX1_sizeOf, .code yX1_sizeOf cX1_sizeOf 3 (some .int)] ++ wsX10)
def wsX1_held : List Cond := .code yX1_held cX1_held 1 (some .int) :: ([.fieldLink RX1 44 "PrivacyledgerModel" "thrown" "I", .methodLink RX1 118 yX1_heldSet, .instanceMethod yX1_heldSet, .selects RX1 yX1_heldSet yX1_heldSet, .initialized RX1, .code yX1_heldSet cX1_heldSet 3 (some .int), .fieldLink RX1 41 "PrivacyledgerModel" "holds" "[I"] ++ wsX10)
def wsX1_request_r1 : List Cond := [Cond.fieldLink RX1 44 "PrivacyledgerModel" "thrown" "I", Cond.fieldLink RX1 55 "PrivacyledgerModel" "many" "I", Cond.methodLink RX1 66 yX1_isSubject, Cond.static yX1_isSubject, Cond.initialized RX1, Cond.code yX1_isSubject cX1_isSubject 1 (some .boolean), Cond.methodLink RX1 48 yX1_in, Cond.static yX1_in, Cond.code yX1_in cX1_in 3 (some .boolean), Cond.methodLink RX1 58 yX1_fails, Cond.instanceMethod yX1_fails, Cond.selects RX1 yX1_fails yX1_fails, Cond.code yX1_fails cX1_fails 2 (some .int), Cond.methodLink RX1 79 yX1_subjects, Cond.instanceMethod yX1_subjects, Cond.selects RX1 yX1_subjects yX1_subjects, Cond.code yX1_subjects cX1_subjects 5 (some .int), Cond.fieldLink RX1 26 "PrivacyledgerModel" "sources" "[I", Cond.fieldLink RX1 23 "PrivacyledgerModel" "root" "[I", Cond.methodLink RX1 73 yX1_aboveOf, Cond.instanceMethod yX1_aboveOf, Cond.selects RX1 yX1_aboveOf yX1_aboveOf, Cond.code yX1_aboveOf cX1_aboveOf 4 (some .int), Cond.methodLink RX1 69 yX1_has]
def wsX1_request_r2 : List Cond := [Cond.static yX1_has, Cond.code yX1_has cX1_has 2 (some .boolean), Cond.methodLink RX1 115 yX1_asks, Cond.instanceMethod yX1_asks, Cond.selects RX1 yX1_asks yX1_asks, Cond.code yX1_asks cX1_asks 5 (some .int), Cond.fieldLink RX1 35 "PrivacyledgerModel" "state" "[I", Cond.methodLink RX1 101 yX1_belowOf, Cond.instanceMethod yX1_belowOf, Cond.selects RX1 yX1_belowOf yX1_belowOf, Cond.code yX1_belowOf cX1_belowOf 4 (some .int)]
def wsX1_request : List Cond := .code yX1_request cX1_request 4 (some .int) :: ((wsX1_request_r1 ++ wsX1_request_r2) ++ wsX10)
def wsX1_kept : List Cond := .code yX1_kept cX1_kept 5 (some .int) :: ([.fieldLink RX1 35 "PrivacyledgerModel" "state" "[I", .fieldLink RX1 55 "PrivacyledgerModel" "many" "I", .methodLink RX1 118 yX1_heldSet, .instanceMethod yX1_heldSet, .selects RX1 yX1_heldSet yX1_heldSet, .initialized RX1, .code yX1_heldSet cX1_heldSet 3 (some .int), .fieldLink RX1 41 "PrivacyledgerModel" "holds" "[I", .methodLink RX1 69 yX1_has, .static yX1_has, .code yX1_has cX1_has 2 (some .boolean), .methodLink RX1 101 yX1_belowOf, .instanceMethod yX1_belowOf, .selects RX1 yX1_belowOf yX1_belowOf, .code yX1_belowOf cX1_belowOf 4 (some .int), .fieldLink RX1 26 "PrivacyledgerModel" "sources" "[I"] ++ wsX10)
def wsX1_whyKept_r1 : List Cond := [Cond.fieldLink RX1 44 "PrivacyledgerModel" "thrown" "I", Cond.methodLink RX1 95 yX1_isRecord, Cond.instanceMethod yX1_isRecord, Cond.selects RX1 yX1_isRecord yX1_isRecord, Cond.initialized RX1, Cond.code yX1_isRecord cX1_isRecord 2 (some .boolean), Cond.fieldLink RX1 55 "PrivacyledgerModel" "many" "I", Cond.methodLink RX1 48 yX1_in, Cond.static yX1_in, Cond.code yX1_in cX1_in 3 (some .boolean), Cond.methodLink RX1 121 yX1_kept, Cond.instanceMethod yX1_kept, Cond.selects RX1 yX1_kept yX1_kept, Cond.code yX1_kept cX1_kept 5 (some .int), Cond.fieldLink RX1 35 "PrivacyledgerModel" "state" "[I", Cond.methodLink RX1 118 yX1_heldSet, Cond.instanceMethod yX1_heldSet, Cond.selects RX1 yX1_heldSet yX1_heldSet, Cond.code yX1_heldSet cX1_heldSet 3 (some .int), Cond.fieldLink RX1 41 "PrivacyledgerModel" "holds" "[I", Cond.methodLink RX1 69 yX1_has, Cond.static yX1_has, Cond.code yX1_has cX1_has 2 (some .boolean), Cond.methodLink RX1 101 yX1_belowOf]
def wsX1_whyKept_r2 : List Cond := [Cond.instanceMethod yX1_belowOf, Cond.selects RX1 yX1_belowOf yX1_belowOf, Cond.code yX1_belowOf cX1_belowOf 4 (some .int), Cond.fieldLink RX1 26 "PrivacyledgerModel" "sources" "[I", Cond.methodLink RX1 58 yX1_fails, Cond.instanceMethod yX1_fails, Cond.selects RX1 yX1_fails yX1_fails, Cond.code yX1_fails cX1_fails 2 (some .int)]
def wsX1_whyKept : List Cond := .code yX1_whyKept cX1_whyKept 2 (some .int) :: ((wsX1_whyKept_r1 ++ wsX1_whyKept_r2) ++ wsX10)
def wsX1_eraseOne : List Cond := .code yX1_eraseOne cX1_eraseOne 3 (some .int) :: ([.fieldLink RX1 55 "PrivacyledgerModel" "many" "I", .fieldLink RX1 35 "PrivacyledgerModel" "state" "[I", .methodLink RX1 121 yX1_kept, .instanceMethod yX1_kept, .selects RX1 yX1_kept yX1_kept, .initialized RX1, .code yX1_kept cX1_kept 5 (some .int), .methodLink RX1 118 yX1_heldSet, .instanceMethod yX1_heldSet, .selects RX1 yX1_heldSet yX1_heldSet, .code yX1_heldSet cX1_heldSet 3 (some .int), .fieldLink RX1 41 "PrivacyledgerModel" "holds" "[I", .methodLink RX1 69 yX1_has, .static yX1_has, .code yX1_has cX1_has 2 (some .boolean), .methodLink RX1 101 yX1_belowOf, .instanceMethod yX1_belowOf, .selects RX1 yX1_belowOf yX1_belowOf, .code yX1_belowOf cX1_belowOf 4 (some .int), .fieldLink RX1 26 "PrivacyledgerModel" "sources" "[I"] ++ wsX10)
def wsX1_erase_r1 : List Cond := [Cond.fieldLink RX1 44 "PrivacyledgerModel" "thrown" "I", Cond.methodLink RX1 124 yX1_eraseOne, Cond.instanceMethod yX1_eraseOne, Cond.selects RX1 yX1_eraseOne yX1_eraseOne, Cond.initialized RX1, Cond.code yX1_eraseOne cX1_eraseOne 3 (some .int), Cond.fieldLink RX1 55 "PrivacyledgerModel" "many" "I", Cond.fieldLink RX1 35 "PrivacyledgerModel" "state" "[I", Cond.methodLink RX1 121 yX1_kept, Cond.instanceMethod yX1_kept, Cond.selects RX1 yX1_kept yX1_kept, Cond.code yX1_kept cX1_kept 5 (some .int), Cond.methodLink RX1 118 yX1_heldSet, Cond.instanceMethod yX1_heldSet, Cond.selects RX1 yX1_heldSet yX1_heldSet, Cond.code yX1_heldSet cX1_heldSet 3 (some .int), Cond.fieldLink RX1 41 "PrivacyledgerModel" "holds" "[I", Cond.methodLink RX1 69 yX1_has, Cond.static yX1_has, Cond.code yX1_has cX1_has 2 (some .boolean), Cond.methodLink RX1 101 yX1_belowOf, Cond.instanceMethod yX1_belowOf, Cond.selects RX1 yX1_belowOf yX1_belowOf, Cond.code yX1_belowOf cX1_belowOf 4 (some .int)]
def wsX1_erase_r2 : List Cond := [Cond.fieldLink RX1 26 "PrivacyledgerModel" "sources" "[I"]
def wsX1_erase : List Cond := .code yX1_erase cX1_erase 1 (some .int) :: ((wsX1_erase_r1 ++ wsX1_erase_r2) ++ wsX10)
def wsX1_eraseAll_r1 : List Cond := [Cond.fieldLink RX1 44 "PrivacyledgerModel" "thrown" "I", Cond.methodLink RX1 124 yX1_eraseOne, Cond.instanceMethod yX1_eraseOne, Cond.selects RX1 yX1_eraseOne yX1_eraseOne, Cond.initialized RX1, Cond.code yX1_eraseOne cX1_eraseOne 3 (some .int), Cond.fieldLink RX1 55 "PrivacyledgerModel" "many" "I", Cond.fieldLink RX1 35 "PrivacyledgerModel" "state" "[I", Cond.methodLink RX1 121 yX1_kept, Cond.instanceMethod yX1_kept, Cond.selects RX1 yX1_kept yX1_kept, Cond.code yX1_kept cX1_kept 5 (some .int), Cond.methodLink RX1 118 yX1_heldSet, Cond.instanceMethod yX1_heldSet, Cond.selects RX1 yX1_heldSet yX1_heldSet, Cond.code yX1_heldSet cX1_heldSet 3 (some .int), Cond.fieldLink RX1 41 "PrivacyledgerModel" "holds" "[I", Cond.methodLink RX1 69 yX1_has, Cond.static yX1_has, Cond.code yX1_has cX1_has 2 (some .boolean), Cond.methodLink RX1 101 yX1_belowOf, Cond.instanceMethod yX1_belowOf, Cond.selects RX1 yX1_belowOf yX1_belowOf, Cond.code yX1_belowOf cX1_belowOf 4 (some .int)]
def wsX1_eraseAll_r2 : List Cond := [Cond.fieldLink RX1 26 "PrivacyledgerModel" "sources" "[I"]
def wsX1_eraseAll : List Cond := .code yX1_eraseAll cX1_eraseAll 2 (some .int) :: ((wsX1_eraseAll_r1 ++ wsX1_eraseAll_r2) ++ wsX10)
def wsX1_tracesOf : List Cond := .code yX1_tracesOf cX1_tracesOf 4 (some .int) :: ([.fieldLink RX1 55 "PrivacyledgerModel" "many" "I", .fieldLink RX1 35 "PrivacyledgerModel" "state" "[I", .methodLink RX1 79 yX1_subjects, .instanceMethod yX1_subjects, .selects RX1 yX1_subjects yX1_subjects, .initialized RX1, .code yX1_subjects cX1_subjects 5 (some .int), .fieldLink RX1 26 "PrivacyledgerModel" "sources" "[I", .fieldLink RX1 23 "PrivacyledgerModel" "root" "[I", .methodLink RX1 73 yX1_aboveOf, .instanceMethod yX1_aboveOf, .selects RX1 yX1_aboveOf yX1_aboveOf, .code yX1_aboveOf cX1_aboveOf 4 (some .int), .methodLink RX1 69 yX1_has, .static yX1_has, .code yX1_has cX1_has 2 (some .boolean)] ++ wsX10)
def wsX1_traces_r1 : List Cond := [Cond.fieldLink RX1 44 "PrivacyledgerModel" "thrown" "I", Cond.methodLink RX1 66 yX1_isSubject, Cond.static yX1_isSubject, Cond.initialized RX1, Cond.code yX1_isSubject cX1_isSubject 1 (some .boolean), Cond.methodLink RX1 48 yX1_in, Cond.static yX1_in, Cond.code yX1_in cX1_in 3 (some .boolean), Cond.methodLink RX1 127 yX1_tracesOf, Cond.instanceMethod yX1_tracesOf, Cond.selects RX1 yX1_tracesOf yX1_tracesOf, Cond.code yX1_tracesOf cX1_tracesOf 4 (some .int), Cond.fieldLink RX1 55 "PrivacyledgerModel" "many" "I", Cond.fieldLink RX1 35 "PrivacyledgerModel" "state" "[I", Cond.methodLink RX1 79 yX1_subjects, Cond.instanceMethod yX1_subjects, Cond.selects RX1 yX1_subjects yX1_subjects, Cond.code yX1_subjects cX1_subjects 5 (some .int), Cond.fieldLink RX1 26 "PrivacyledgerModel" "sources" "[I", Cond.fieldLink RX1 23 "PrivacyledgerModel" "root" "[I", Cond.methodLink RX1 73 yX1_aboveOf, Cond.instanceMethod yX1_aboveOf, Cond.selects RX1 yX1_aboveOf yX1_aboveOf, Cond.code yX1_aboveOf cX1_aboveOf 4 (some .int)]
def wsX1_traces_r2 : List Cond := [Cond.methodLink RX1 69 yX1_has, Cond.static yX1_has, Cond.code yX1_has cX1_has 2 (some .boolean), Cond.methodLink RX1 58 yX1_fails, Cond.instanceMethod yX1_fails, Cond.selects RX1 yX1_fails yX1_fails, Cond.code yX1_fails cX1_fails 2 (some .int)]
def wsX1_traces : List Cond := .code yX1_traces cX1_traces 2 (some .int) :: ((wsX1_traces_r1 ++ wsX1_traces_r2) ++ wsX10)
def wsX1_tracesFromRoots_r1 : List Cond := [Cond.fieldLink RX1 44 "PrivacyledgerModel" "thrown" "I", Cond.methodLink RX1 66 yX1_isSubject, Cond.static yX1_isSubject, Cond.initialized RX1, Cond.code yX1_isSubject cX1_isSubject 1 (some .boolean), Cond.methodLink RX1 48 yX1_in, Cond.static yX1_in, Cond.code yX1_in cX1_in 3 (some .boolean), Cond.methodLink RX1 127 yX1_tracesOf, Cond.instanceMethod yX1_tracesOf, Cond.selects RX1 yX1_tracesOf yX1_tracesOf, Cond.code yX1_tracesOf cX1_tracesOf 4 (some .int), Cond.fieldLink RX1 55 "PrivacyledgerModel" "many" "I", Cond.fieldLink RX1 35 "PrivacyledgerModel" "state" "[I", Cond.methodLink RX1 79 yX1_subjects, Cond.instanceMethod yX1_subjects, Cond.selects RX1 yX1_subjects yX1_subjects, Cond.code yX1_subjects cX1_subjects 5 (some .int), Cond.fieldLink RX1 26 "PrivacyledgerModel" "sources" "[I", Cond.fieldLink RX1 23 "PrivacyledgerModel" "root" "[I", Cond.methodLink RX1 73 yX1_aboveOf, Cond.instanceMethod yX1_aboveOf, Cond.selects RX1 yX1_aboveOf yX1_aboveOf, Cond.code yX1_aboveOf cX1_aboveOf 4 (some .int)]
def wsX1_tracesFromRoots_r2 : List Cond := [Cond.methodLink RX1 69 yX1_has, Cond.static yX1_has, Cond.code yX1_has cX1_has 2 (some .boolean), Cond.methodLink RX1 58 yX1_fails, Cond.instanceMethod yX1_fails, Cond.selects RX1 yX1_fails yX1_fails, Cond.code yX1_fails cX1_fails 2 (some .int)]
def wsX1_tracesFromRoots : List Cond := .code yX1_tracesFromRoots cX1_tracesFromRoots 2 (some .int) :: ((wsX1_tracesFromRoots_r1 ++ wsX1_tracesFromRoots_r2) ++ wsX10)
def wsX1_due_r1 : List Cond := [Cond.fieldLink RX1 44 "PrivacyledgerModel" "thrown" "I", Cond.methodLink RX1 111 yX1_dueSet, Cond.instanceMethod yX1_dueSet, Cond.selects RX1 yX1_dueSet yX1_dueSet, Cond.initialized RX1, Cond.code yX1_dueSet cX1_dueSet 3 (some .int), Cond.fieldLink RX1 55 "PrivacyledgerModel" "many" "I", Cond.fieldLink RX1 35 "PrivacyledgerModel" "state" "[I", Cond.fieldLink RX1 86 "PrivacyledgerModel" "today" "I", Cond.methodLink RX1 104 yX1_end, Cond.instanceMethod yX1_end, Cond.selects RX1 yX1_end yX1_end, Cond.code yX1_end cX1_end 2 (some .int), Cond.fieldLink RX1 29 "PrivacyledgerModel" "goals" "[I", Cond.fieldLink RX1 32 "PrivacyledgerModel" "added" "[I", Cond.methodLink RX1 79 yX1_subjects, Cond.instanceMethod yX1_subjects, Cond.selects RX1 yX1_subjects yX1_subjects, Cond.code yX1_subjects cX1_subjects 5 (some .int), Cond.fieldLink RX1 26 "PrivacyledgerModel" "sources" "[I", Cond.fieldLink RX1 23 "PrivacyledgerModel" "root" "[I", Cond.methodLink RX1 73 yX1_aboveOf, Cond.instanceMethod yX1_aboveOf, Cond.selects RX1 yX1_aboveOf yX1_aboveOf]
def wsX1_due_r2 : List Cond := [Cond.code yX1_aboveOf cX1_aboveOf 4 (some .int), Cond.methodLink RX1 69 yX1_has, Cond.static yX1_has, Cond.code yX1_has cX1_has 2 (some .boolean), Cond.methodLink RX1 82 yX1_endBy, Cond.instanceMethod yX1_endBy, Cond.selects RX1 yX1_endBy yX1_endBy, Cond.code yX1_endBy cX1_endBy 6 (some .int), Cond.fieldLink RX1 52 "PrivacyledgerModel" "purposes" "I", Cond.fieldLink RX1 7 "PrivacyledgerModel" "retention" "[I", Cond.methodLink RX1 76 yX1_isAllowed, Cond.instanceMethod yX1_isAllowed, Cond.selects RX1 yX1_isAllowed yX1_isAllowed, Cond.code yX1_isAllowed cX1_isAllowed 5 (some .boolean), Cond.fieldLink RX1 13 "PrivacyledgerModel" "needs" "[Z", Cond.fieldLink RX1 17 "PrivacyledgerModel" "consented" "[I"]
def wsX1_due : List Cond := .code yX1_due cX1_due 1 (some .int) :: ((wsX1_due_r1 ++ wsX1_due_r2) ++ wsX10)
def wsJ9_max_7cf53 : List Cond := .code yJ9_max_7cf53 cJ9_max_7cf53 2 (some .int) :: ([])
def wsJ9_min_7cf53 : List Cond := .code yJ9_min_7cf53 cJ9_min_7cf53 2 (some .int) :: ([])
def wsL_addPurpose : List Cond := .codeWith yL_addPurpose cL_addPurpose 5 (some .int) [(0, 10, 13, 13), (0, 10, 17, 15)] :: ([.classLink RL 13 "java/lang/IllegalArgumentException", .classLink RL 15 "java/lang/IllegalStateException", .methodLink RL 7 yX0_addPurpose, .instanceMethod yX0_addPurpose, .selects RX0 yX0_addPurpose yX0_addPurpose, .initialized RX0, .code yX0_addPurpose cX0_addPurpose 4 (some .int), .classLink RX0 45 "java/lang/IllegalStateException", .initialized "java/lang/IllegalStateException", .fieldLink RX0 41 "Privacyledger" "purposeCount" "I", .fieldLink RX0 9 "Privacyledger" "retentionOfPurpose" "[I", .fieldLink RX0 52 "Privacyledger" "purposesWithoutConsent" "I", .methodLink RX0 37 yX0_checkRetention, .instanceMethod yX0_checkRetention, .selects RX0 yX0_checkRetention yX0_checkRetention, .code yX0_checkRetention cX0_checkRetention 2 none, .classLink RX0 88 "java/lang/IllegalArgumentException", .initialized "java/lang/IllegalArgumentException", .methodLink RX0 55 yX0_bit, .static yX0_bit, .code yX0_bit cX0_bit 1 (some .int)] ++ wsX00 ++ (vx_atS RX0 49 "java/lang/IllegalStateException" ["java/lang/RuntimeException", "java/lang/Exception"]).filter goodWord ++ (vx_atS RX0 92 "java/lang/IllegalArgumentException" ["java/lang/RuntimeException", "java/lang/Exception"]).filter goodWord)
def wsL_setRetention : List Cond := .codeWith yL_setRetention cL_setRetention 5 (some .int) [(0, 10, 13, 21), (0, 10, 17, 13)] :: ([.classLink RL 21 "java/lang/IndexOutOfBoundsException", .classLink RL 13 "java/lang/IllegalArgumentException", .methodLink RL 17 yX0_setRetention, .instanceMethod yX0_setRetention, .selects RX0 yX0_setRetention yX0_setRetention, .initialized RX0, .code yX0_setRetention cX0_setRetention 4 (some .int), .fieldLink RX0 9 "Privacyledger" "retentionOfPurpose" "[I", .methodLink RX0 59 yX0_checkPurpose, .instanceMethod yX0_checkPurpose, .selects RX0 yX0_checkPurpose yX0_checkPurpose, .code yX0_checkPurpose cX0_checkPurpose 2 none, .classLink RX0 186 "java/lang/IndexOutOfBoundsException", .initialized "java/lang/IndexOutOfBoundsException", .fieldLink RX0 41 "Privacyledger" "purposeCount" "I", .methodLink RX0 37 yX0_checkRetention, .instanceMethod yX0_checkRetention, .selects RX0 yX0_checkRetention yX0_checkRetention, .code yX0_checkRetention cX0_checkRetention 2 none, .classLink RX0 88 "java/lang/IllegalArgumentException", .initialized "java/lang/IllegalArgumentException"] ++ wsX00 ++ (vx_atS RX0 190 "java/lang/IndexOutOfBoundsException" ["java/lang/RuntimeException", "java/lang/Exception"]).filter goodWord ++ (vx_atS RX0 92 "java/lang/IllegalArgumentException" ["java/lang/RuntimeException", "java/lang/Exception"]).filter goodWord)
def wsL_consent : List Cond := .codeWith yL_consent cL_consent 6 (some .int) [(0, 19, 22, 21)] :: ([.classLink RL 21 "java/lang/IndexOutOfBoundsException", .methodLink RL 23 yX0_consent, .instanceMethod yX0_consent, .selects RX0 yX0_consent yX0_consent, .initialized RX0, .code yX0_consent cX0_consent 4 (some .boolean), .fieldLink RX0 13 "Privacyledger" "consentsOfSubject" "[I", .methodLink RX0 62 yX0_checkSubject, .instanceMethod yX0_checkSubject, .selects RX0 yX0_checkSubject yX0_checkSubject, .code yX0_checkSubject cX0_checkSubject 2 none, .classLink RX0 186 "java/lang/IndexOutOfBoundsException", .initialized "java/lang/IndexOutOfBoundsException", .methodLink RX0 59 yX0_checkPurpose, .instanceMethod yX0_checkPurpose, .selects RX0 yX0_checkPurpose yX0_checkPurpose, .code yX0_checkPurpose cX0_checkPurpose 2 none, .fieldLink RX0 41 "Privacyledger" "purposeCount" "I", .methodLink RX0 65 yX0_has, .static yX0_has, .code yX0_has cX0_has 2 (some .boolean), .methodLink RX0 55 yX0_bit, .static yX0_bit, .code yX0_bit cX0_bit 1 (some .int)] ++ wsX00 ++ (vx_atS RX0 190 "java/lang/IndexOutOfBoundsException" ["java/lang/RuntimeException", "java/lang/Exception"]).filter goodWord)
def wsL_consents : List Cond := .codeWith yL_consents cL_consents 4 (some .int) [(0, 9, 12, 21)] :: ([.classLink RL 21 "java/lang/IndexOutOfBoundsException", .methodLink RL 27 yX0_consents, .instanceMethod yX0_consents, .selects RX0 yX0_consents yX0_consents, .initialized RX0, .code yX0_consents cX0_consents 2 (some .int), .fieldLink RX0 13 "Privacyledger" "consentsOfSubject" "[I", .methodLink RX0 62 yX0_checkSubject, .instanceMethod yX0_checkSubject, .selects RX0 yX0_checkSubject yX0_checkSubject, .code yX0_checkSubject cX0_checkSubject 2 none, .classLink RX0 186 "java/lang/IndexOutOfBoundsException", .initialized "java/lang/IndexOutOfBoundsException"] ++ wsX00 ++ (vx_atS RX0 190 "java/lang/IndexOutOfBoundsException" ["java/lang/RuntimeException", "java/lang/Exception"]).filter goodWord)
def wsL_daysWithConsent : List Cond := .codeWith yL_daysWithConsent cL_daysWithConsent 5 (some .int) [(0, 10, 13, 21)] :: ([.classLink RL 21 "java/lang/IndexOutOfBoundsException", .methodLink RL 31 yX0_daysWithConsent, .instanceMethod yX0_daysWithConsent, .selects RX0 yX0_daysWithConsent yX0_daysWithConsent, .initialized RX0, .code yX0_daysWithConsent cX0_daysWithConsent 3 (some .int), .fieldLink RX0 16 "Privacyledger" "consentDays" "[I", .methodLink RX0 62 yX0_checkSubject, .instanceMethod yX0_checkSubject, .selects RX0 yX0_checkSubject yX0_checkSubject, .code yX0_checkSubject cX0_checkSubject 2 none, .classLink RX0 186 "java/lang/IndexOutOfBoundsException", .initialized "java/lang/IndexOutOfBoundsException", .methodLink RX0 59 yX0_checkPurpose, .instanceMethod yX0_checkPurpose, .selects RX0 yX0_checkPurpose yX0_checkPurpose, .code yX0_checkPurpose cX0_checkPurpose 2 none, .fieldLink RX0 41 "Privacyledger" "purposeCount" "I", .methodLink RX0 69 yX0_consentIndex, .static yX0_consentIndex, .code yX0_consentIndex cX0_consentIndex 2 (some .int)] ++ wsX00 ++ (vx_atS RX0 190 "java/lang/IndexOutOfBoundsException" ["java/lang/RuntimeException", "java/lang/Exception"]).filter goodWord)
def wsL_add_r1 : List Cond := [Cond.classLink RL 21 "java/lang/IndexOutOfBoundsException", Cond.classLink RL 13 "java/lang/IllegalArgumentException", Cond.classLink RL 15 "java/lang/IllegalStateException", Cond.methodLink RL 34 yX0_add, Cond.instanceMethod yX0_add, Cond.selects RX0 yX0_add yX0_add, Cond.initialized RX0, Cond.code yX0_add cX0_add 3 (some .int), Cond.methodLink RX0 62 yX0_checkSubject, Cond.instanceMethod yX0_checkSubject, Cond.selects RX0 yX0_checkSubject yX0_checkSubject, Cond.code yX0_checkSubject cX0_checkSubject 2 none, Cond.classLink RX0 186 "java/lang/IndexOutOfBoundsException", Cond.initialized "java/lang/IndexOutOfBoundsException", Cond.methodLink RX0 73 yX0_checkPurposes, Cond.instanceMethod yX0_checkPurposes, Cond.selects RX0 yX0_checkPurposes yX0_checkPurposes, Cond.code yX0_checkPurposes cX0_checkPurposes 2 none, Cond.classLink RX0 88 "java/lang/IllegalArgumentException", Cond.initialized "java/lang/IllegalArgumentException", Cond.methodLink RX0 193 yX0_allPurposes, Cond.instanceMethod yX0_allPurposes, Cond.selects RX0 yX0_allPurposes yX0_allPurposes, Cond.code yX0_allPurposes cX0_allPurposes 1 (some .int)]
def wsL_add_r2 : List Cond := [Cond.fieldLink RX0 41 "Privacyledger" "purposeCount" "I", Cond.methodLink RX0 55 yX0_bit, Cond.static yX0_bit, Cond.code yX0_bit cX0_bit 1 (some .int), Cond.methodLink RX0 76 yX0_addRecord, Cond.instanceMethod yX0_addRecord, Cond.selects RX0 yX0_addRecord yX0_addRecord, Cond.code yX0_addRecord cX0_addRecord 5 (some .int), Cond.classLink RX0 45 "java/lang/IllegalStateException", Cond.initialized "java/lang/IllegalStateException", Cond.fieldLink RX0 115 "Privacyledger" "recordCount" "I", Cond.fieldLink RX0 149 "Privacyledger" "today" "I", Cond.fieldLink RX0 19 "Privacyledger" "dayAdded" "[I", Cond.fieldLink RX0 22 "Privacyledger" "purposesOfRecord" "[I", Cond.fieldLink RX0 25 "Privacyledger" "subjectsOfRecord" "[I", Cond.fieldLink RX0 28 "Privacyledger" "sourcesOfRecord" "[I", Cond.fieldLink RX0 83 "Privacyledger" "presentRecords" "I", Cond.methodLink RX0 208 yX0_isAnyOpen, Cond.instanceMethod yX0_isAnyOpen, Cond.selects RX0 yX0_isAnyOpen yX0_isAnyOpen, Cond.code yX0_isAnyOpen cX0_isAnyOpen 6 (some .boolean), Cond.methodLink RX0 130 yX0_purposesAllowedBy, Cond.instanceMethod yX0_purposesAllowedBy, Cond.selects RX0 yX0_purposesAllowedBy yX0_purposesAllowedBy]
def wsL_add_r3 : List Cond := [Cond.code yX0_purposesAllowedBy cX0_purposesAllowedBy 4 (some .int), Cond.fieldLink RX0 13 "Privacyledger" "consentsOfSubject" "[I", Cond.fieldLink RX0 52 "Privacyledger" "purposesWithoutConsent" "I", Cond.methodLink RX0 65 yX0_has, Cond.static yX0_has, Cond.code yX0_has cX0_has 2 (some .boolean), Cond.methodLink RX0 133 yX0_isRetained, Cond.instanceMethod yX0_isRetained, Cond.selects RX0 yX0_isRetained yX0_isRetained, Cond.code yX0_isRetained cX0_isRetained 3 (some .boolean), Cond.fieldLink RX0 9 "Privacyledger" "retentionOfPurpose" "[I"]
def wsL_add : List Cond := .codeWith yL_add cL_add 5 (some .int) [(0, 10, 13, 21), (0, 10, 17, 13), (0, 10, 21, 15)] :: ((wsL_add_r1 ++ (wsL_add_r2 ++ wsL_add_r3)) ++ wsX00 ++ (vx_atS RX0 190 "java/lang/IndexOutOfBoundsException" ["java/lang/RuntimeException", "java/lang/Exception"]).filter goodWord ++ (vx_atS RX0 92 "java/lang/IllegalArgumentException" ["java/lang/RuntimeException", "java/lang/Exception"]).filter goodWord ++ (vx_atS RX0 49 "java/lang/IllegalStateException" ["java/lang/RuntimeException", "java/lang/Exception"]).filter goodWord)
def wsL_derive_r1 : List Cond := [Cond.classLink RL 21 "java/lang/IndexOutOfBoundsException", Cond.classLink RL 13 "java/lang/IllegalArgumentException", Cond.classLink RL 15 "java/lang/IllegalStateException", Cond.methodLink RL 37 yX0_derive, Cond.instanceMethod yX0_derive, Cond.selects RX0 yX0_derive yX0_derive, Cond.initialized RX0, Cond.code yX0_derive cX0_derive 3 (some .int), Cond.classLink RX0 45 "java/lang/IllegalStateException", Cond.initialized "java/lang/IllegalStateException", Cond.fieldLink RX0 83 "Privacyledger" "presentRecords" "I", Cond.fieldLink RX0 25 "Privacyledger" "subjectsOfRecord" "[I", Cond.methodLink RX0 80 yX0_checkRecord, Cond.instanceMethod yX0_checkRecord, Cond.selects RX0 yX0_checkRecord yX0_checkRecord, Cond.code yX0_checkRecord cX0_checkRecord 2 none, Cond.classLink RX0 186 "java/lang/IndexOutOfBoundsException", Cond.initialized "java/lang/IndexOutOfBoundsException", Cond.fieldLink RX0 115 "Privacyledger" "recordCount" "I", Cond.methodLink RX0 73 yX0_checkPurposes, Cond.instanceMethod yX0_checkPurposes, Cond.selects RX0 yX0_checkPurposes yX0_checkPurposes, Cond.code yX0_checkPurposes cX0_checkPurposes 2 none, Cond.classLink RX0 88 "java/lang/IllegalArgumentException"]
def wsL_derive_r2 : List Cond := [Cond.initialized "java/lang/IllegalArgumentException", Cond.methodLink RX0 193 yX0_allPurposes, Cond.instanceMethod yX0_allPurposes, Cond.selects RX0 yX0_allPurposes yX0_allPurposes, Cond.code yX0_allPurposes cX0_allPurposes 1 (some .int), Cond.fieldLink RX0 41 "Privacyledger" "purposeCount" "I", Cond.methodLink RX0 55 yX0_bit, Cond.static yX0_bit, Cond.code yX0_bit cX0_bit 1 (some .int), Cond.methodLink RX0 65 yX0_has, Cond.static yX0_has, Cond.code yX0_has cX0_has 2 (some .boolean), Cond.methodLink RX0 76 yX0_addRecord, Cond.instanceMethod yX0_addRecord, Cond.selects RX0 yX0_addRecord yX0_addRecord, Cond.code yX0_addRecord cX0_addRecord 5 (some .int), Cond.fieldLink RX0 149 "Privacyledger" "today" "I", Cond.fieldLink RX0 19 "Privacyledger" "dayAdded" "[I", Cond.fieldLink RX0 22 "Privacyledger" "purposesOfRecord" "[I", Cond.fieldLink RX0 28 "Privacyledger" "sourcesOfRecord" "[I", Cond.methodLink RX0 208 yX0_isAnyOpen, Cond.instanceMethod yX0_isAnyOpen, Cond.selects RX0 yX0_isAnyOpen yX0_isAnyOpen, Cond.code yX0_isAnyOpen cX0_isAnyOpen 6 (some .boolean)]
def wsL_derive_r3 : List Cond := [Cond.methodLink RX0 130 yX0_purposesAllowedBy, Cond.instanceMethod yX0_purposesAllowedBy, Cond.selects RX0 yX0_purposesAllowedBy yX0_purposesAllowedBy, Cond.code yX0_purposesAllowedBy cX0_purposesAllowedBy 4 (some .int), Cond.fieldLink RX0 13 "Privacyledger" "consentsOfSubject" "[I", Cond.fieldLink RX0 52 "Privacyledger" "purposesWithoutConsent" "I", Cond.methodLink RX0 133 yX0_isRetained, Cond.instanceMethod yX0_isRetained, Cond.selects RX0 yX0_isRetained yX0_isRetained, Cond.code yX0_isRetained cX0_isRetained 3 (some .boolean), Cond.fieldLink RX0 9 "Privacyledger" "retentionOfPurpose" "[I"]
def wsL_derive : List Cond := .codeWith yL_derive cL_derive 5 (some .int) [(0, 10, 13, 21), (0, 10, 17, 13), (0, 10, 21, 15)] :: ((wsL_derive_r1 ++ (wsL_derive_r2 ++ wsL_derive_r3)) ++ wsX00 ++ (vx_atS RX0 49 "java/lang/IllegalStateException" ["java/lang/RuntimeException", "java/lang/Exception"]).filter goodWord ++ (vx_atS RX0 190 "java/lang/IndexOutOfBoundsException" ["java/lang/RuntimeException", "java/lang/Exception"]).filter goodWord ++ (vx_atS RX0 92 "java/lang/IllegalArgumentException" ["java/lang/RuntimeException", "java/lang/Exception"]).filter goodWord)
def wsL_addSource_r1 : List Cond := [Cond.classLink RL 21 "java/lang/IndexOutOfBoundsException", Cond.classLink RL 13 "java/lang/IllegalArgumentException", Cond.classLink RL 15 "java/lang/IllegalStateException", Cond.methodLink RL 40 yX0_addSource, Cond.instanceMethod yX0_addSource, Cond.selects RX0 yX0_addSource yX0_addSource, Cond.initialized RX0, Cond.code yX0_addSource cX0_addSource 3 (some .int), Cond.classLink RX0 88 "java/lang/IllegalArgumentException", Cond.initialized "java/lang/IllegalArgumentException", Cond.classLink RX0 45 "java/lang/IllegalStateException", Cond.initialized "java/lang/IllegalStateException", Cond.fieldLink RX0 28 "Privacyledger" "sourcesOfRecord" "[I", Cond.fieldLink RX0 83 "Privacyledger" "presentRecords" "I", Cond.fieldLink RX0 25 "Privacyledger" "subjectsOfRecord" "[I", Cond.methodLink RX0 80 yX0_checkRecord, Cond.instanceMethod yX0_checkRecord, Cond.selects RX0 yX0_checkRecord yX0_checkRecord, Cond.code yX0_checkRecord cX0_checkRecord 2 none, Cond.classLink RX0 186 "java/lang/IndexOutOfBoundsException", Cond.initialized "java/lang/IndexOutOfBoundsException", Cond.fieldLink RX0 115 "Privacyledger" "recordCount" "I", Cond.methodLink RX0 65 yX0_has, Cond.static yX0_has]
def wsL_addSource_r2 : List Cond := [Cond.code yX0_has cX0_has 2 (some .boolean), Cond.methodLink RX0 55 yX0_bit, Cond.static yX0_bit, Cond.code yX0_bit cX0_bit 1 (some .int), Cond.methodLink RX0 95 yX0_isRoot, Cond.instanceMethod yX0_isRoot, Cond.selects RX0 yX0_isRoot yX0_isRoot, Cond.code yX0_isRoot cX0_isRoot 2 (some .boolean), Cond.methodLink RX0 103 yX0_withAllBelow, Cond.instanceMethod yX0_withAllBelow, Cond.selects RX0 yX0_withAllBelow yX0_withAllBelow, Cond.code yX0_withAllBelow cX0_withAllBelow 4 (some .int), Cond.methodLink RX0 106 yX0_addSubjects, Cond.instanceMethod yX0_addSubjects, Cond.selects RX0 yX0_addSubjects yX0_addSubjects, Cond.code yX0_addSubjects cX0_addSubjects 4 none, Cond.methodLink RX0 110 yJ6_bitCount_0f7a4, Cond.static yJ6_bitCount_0f7a4, Cond.initialized RJ6, Cond.code yJ6_bitCount_0f7a4 cJ6_bitCount_0f7a4 1 (some .int), Cond.constant RJ6 265 (1431655765), Cond.constant RJ6 266 (858993459), Cond.constant RJ6 267 (252645135)]
def wsL_addSource : List Cond := .codeWith yL_addSource cL_addSource 5 (some .int) [(0, 10, 13, 21), (0, 10, 17, 13), (0, 10, 21, 15)] :: ((wsL_addSource_r1 ++ wsL_addSource_r2) ++ wsX00 ++ (vx_atS RX0 92 "java/lang/IllegalArgumentException" ["java/lang/RuntimeException", "java/lang/Exception"]).filter goodWord ++ (vx_atS RX0 49 "java/lang/IllegalStateException" ["java/lang/RuntimeException", "java/lang/Exception"]).filter goodWord ++ (vx_atS RX0 190 "java/lang/IndexOutOfBoundsException" ["java/lang/RuntimeException", "java/lang/Exception"]).filter goodWord)
def wsL_stateOf : List Cond := .codeWith yL_stateOf cL_stateOf 4 (some .int) [(0, 9, 12, 21)] :: ([.classLink RL 21 "java/lang/IndexOutOfBoundsException", .methodLink RL 43 yX0_stateOf, .instanceMethod yX0_stateOf, .selects RX0 yX0_stateOf yX0_stateOf, .initialized RX0, .code yX0_stateOf cX0_stateOf 2 (some .int), .fieldLink RX0 118 "Privacyledger" "erasedRecords" "I", .fieldLink RX0 121 "Privacyledger" "requestedRecords" "I", .methodLink RX0 80 yX0_checkRecord, .instanceMethod yX0_checkRecord, .selects RX0 yX0_checkRecord yX0_checkRecord, .code yX0_checkRecord cX0_checkRecord 2 none, .classLink RX0 186 "java/lang/IndexOutOfBoundsException", .initialized "java/lang/IndexOutOfBoundsException", .fieldLink RX0 115 "Privacyledger" "recordCount" "I", .methodLink RX0 65 yX0_has, .static yX0_has, .code yX0_has cX0_has 2 (some .boolean), .methodLink RX0 55 yX0_bit, .static yX0_bit, .code yX0_bit cX0_bit 1 (some .int)] ++ wsX00 ++ (vx_atS RX0 190 "java/lang/IndexOutOfBoundsException" ["java/lang/RuntimeException", "java/lang/Exception"]).filter goodWord)
def wsL_subjectsOf : List Cond := .codeWith yL_subjectsOf cL_subjectsOf 4 (some .int) [(0, 9, 12, 21)] :: ([.classLink RL 21 "java/lang/IndexOutOfBoundsException", .methodLink RL 46 yX0_subjectsOf, .instanceMethod yX0_subjectsOf, .selects RX0 yX0_subjectsOf yX0_subjectsOf, .initialized RX0, .code yX0_subjectsOf cX0_subjectsOf 2 (some .int), .fieldLink RX0 25 "Privacyledger" "subjectsOfRecord" "[I", .methodLink RX0 80 yX0_checkRecord, .instanceMethod yX0_checkRecord, .selects RX0 yX0_checkRecord yX0_checkRecord, .code yX0_checkRecord cX0_checkRecord 2 none, .classLink RX0 186 "java/lang/IndexOutOfBoundsException", .initialized "java/lang/IndexOutOfBoundsException", .fieldLink RX0 115 "Privacyledger" "recordCount" "I"] ++ wsX00 ++ (vx_atS RX0 190 "java/lang/IndexOutOfBoundsException" ["java/lang/RuntimeException", "java/lang/Exception"]).filter goodWord)
def wsL_below_r1 : List Cond := [Cond.classLink RL 21 "java/lang/IndexOutOfBoundsException", Cond.methodLink RL 49 yX0_below, Cond.instanceMethod yX0_below, Cond.selects RX0 yX0_below yX0_below, Cond.initialized RX0, Cond.code yX0_below cX0_below 2 (some .int), Cond.methodLink RX0 80 yX0_checkRecord, Cond.instanceMethod yX0_checkRecord, Cond.selects RX0 yX0_checkRecord yX0_checkRecord, Cond.code yX0_checkRecord cX0_checkRecord 2 none, Cond.classLink RX0 186 "java/lang/IndexOutOfBoundsException", Cond.initialized "java/lang/IndexOutOfBoundsException", Cond.fieldLink RX0 115 "Privacyledger" "recordCount" "I", Cond.methodLink RX0 124 yX0_allBelow, Cond.instanceMethod yX0_allBelow, Cond.selects RX0 yX0_allBelow yX0_allBelow, Cond.code yX0_allBelow cX0_allBelow 2 (some .int), Cond.methodLink RX0 55 yX0_bit, Cond.static yX0_bit, Cond.code yX0_bit cX0_bit 1 (some .int), Cond.methodLink RX0 103 yX0_withAllBelow, Cond.instanceMethod yX0_withAllBelow, Cond.selects RX0 yX0_withAllBelow yX0_withAllBelow, Cond.code yX0_withAllBelow cX0_withAllBelow 4 (some .int)]
def wsL_below_r2 : List Cond := [Cond.fieldLink RX0 28 "Privacyledger" "sourcesOfRecord" "[I"]
def wsL_below : List Cond := .codeWith yL_below cL_below 4 (some .int) [(0, 9, 12, 21)] :: ((wsL_below_r1 ++ wsL_below_r2) ++ wsX00 ++ (vx_atS RX0 190 "java/lang/IndexOutOfBoundsException" ["java/lang/RuntimeException", "java/lang/Exception"]).filter goodWord)
def wsL_endOf_r1 : List Cond := [Cond.classLink RL 21 "java/lang/IndexOutOfBoundsException", Cond.methodLink RL 52 yX0_endOf, Cond.instanceMethod yX0_endOf, Cond.selects RX0 yX0_endOf yX0_endOf, Cond.initialized RX0, Cond.code yX0_endOf cX0_endOf 2 (some .int), Cond.methodLink RX0 80 yX0_checkRecord, Cond.instanceMethod yX0_checkRecord, Cond.selects RX0 yX0_checkRecord yX0_checkRecord, Cond.code yX0_checkRecord cX0_checkRecord 2 none, Cond.classLink RX0 186 "java/lang/IndexOutOfBoundsException", Cond.initialized "java/lang/IndexOutOfBoundsException", Cond.fieldLink RX0 115 "Privacyledger" "recordCount" "I", Cond.methodLink RX0 127 yX0_endNow, Cond.instanceMethod yX0_endNow, Cond.selects RX0 yX0_endNow yX0_endNow, Cond.code yX0_endNow cX0_endNow 5 (some .int), Cond.fieldLink RX0 22 "Privacyledger" "purposesOfRecord" "[I", Cond.fieldLink RX0 25 "Privacyledger" "subjectsOfRecord" "[I", Cond.fieldLink RX0 41 "Privacyledger" "purposeCount" "I", Cond.fieldLink RX0 9 "Privacyledger" "retentionOfPurpose" "[I", Cond.methodLink RX0 214 Lib.Math.max.name, Cond.static Lib.Math.max.name, Cond.initialized "java/lang/Math"]
def wsL_endOf_r2 : List Cond := [Cond.code Lib.Math.max.name Lib.Math.max.code 2 (some .int), Cond.fieldLink RX0 19 "Privacyledger" "dayAdded" "[I", Cond.methodLink RX0 130 yX0_purposesAllowedBy, Cond.instanceMethod yX0_purposesAllowedBy, Cond.selects RX0 yX0_purposesAllowedBy yX0_purposesAllowedBy, Cond.code yX0_purposesAllowedBy cX0_purposesAllowedBy 4 (some .int), Cond.fieldLink RX0 13 "Privacyledger" "consentsOfSubject" "[I", Cond.fieldLink RX0 52 "Privacyledger" "purposesWithoutConsent" "I", Cond.methodLink RX0 193 yX0_allPurposes, Cond.instanceMethod yX0_allPurposes, Cond.selects RX0 yX0_allPurposes yX0_allPurposes, Cond.code yX0_allPurposes cX0_allPurposes 1 (some .int), Cond.methodLink RX0 55 yX0_bit, Cond.static yX0_bit, Cond.code yX0_bit cX0_bit 1 (some .int), Cond.methodLink RX0 65 yX0_has, Cond.static yX0_has, Cond.code yX0_has cX0_has 2 (some .boolean)]
def wsL_endOf : List Cond := .codeWith yL_endOf cL_endOf 4 (some .int) [(0, 9, 12, 21)] :: ((wsL_endOf_r1 ++ wsL_endOf_r2) ++ wsX00 ++ (vx_atS RX0 190 "java/lang/IndexOutOfBoundsException" ["java/lang/RuntimeException", "java/lang/Exception"]).filter goodWord)
def wsL_whyNoUse_r1 : List Cond := [Cond.classLink RL 21 "java/lang/IndexOutOfBoundsException", Cond.methodLink RL 55 yX0_whyNoUse, Cond.instanceMethod yX0_whyNoUse, Cond.selects RX0 yX0_whyNoUse yX0_whyNoUse, Cond.initialized RX0, Cond.code yX0_whyNoUse cX0_whyNoUse 3 (some .int), Cond.fieldLink RX0 118 "Privacyledger" "erasedRecords" "I", Cond.fieldLink RX0 121 "Privacyledger" "requestedRecords" "I", Cond.fieldLink RX0 22 "Privacyledger" "purposesOfRecord" "[I", Cond.fieldLink RX0 25 "Privacyledger" "subjectsOfRecord" "[I", Cond.fieldLink RX0 19 "Privacyledger" "dayAdded" "[I", Cond.methodLink RX0 80 yX0_checkRecord, Cond.instanceMethod yX0_checkRecord, Cond.selects RX0 yX0_checkRecord yX0_checkRecord, Cond.code yX0_checkRecord cX0_checkRecord 2 none, Cond.classLink RX0 186 "java/lang/IndexOutOfBoundsException", Cond.initialized "java/lang/IndexOutOfBoundsException", Cond.fieldLink RX0 115 "Privacyledger" "recordCount" "I", Cond.methodLink RX0 59 yX0_checkPurpose, Cond.instanceMethod yX0_checkPurpose, Cond.selects RX0 yX0_checkPurpose yX0_checkPurpose, Cond.code yX0_checkPurpose cX0_checkPurpose 2 none, Cond.fieldLink RX0 41 "Privacyledger" "purposeCount" "I", Cond.methodLink RX0 65 yX0_has]
def wsL_whyNoUse_r2 : List Cond := [Cond.static yX0_has, Cond.code yX0_has cX0_has 2 (some .boolean), Cond.methodLink RX0 55 yX0_bit, Cond.static yX0_bit, Cond.code yX0_bit cX0_bit 1 (some .int), Cond.methodLink RX0 130 yX0_purposesAllowedBy, Cond.instanceMethod yX0_purposesAllowedBy, Cond.selects RX0 yX0_purposesAllowedBy yX0_purposesAllowedBy, Cond.code yX0_purposesAllowedBy cX0_purposesAllowedBy 4 (some .int), Cond.fieldLink RX0 13 "Privacyledger" "consentsOfSubject" "[I", Cond.fieldLink RX0 52 "Privacyledger" "purposesWithoutConsent" "I", Cond.methodLink RX0 193 yX0_allPurposes, Cond.instanceMethod yX0_allPurposes, Cond.selects RX0 yX0_allPurposes yX0_allPurposes, Cond.code yX0_allPurposes cX0_allPurposes 1 (some .int), Cond.methodLink RX0 133 yX0_isRetained, Cond.instanceMethod yX0_isRetained, Cond.selects RX0 yX0_isRetained yX0_isRetained, Cond.code yX0_isRetained cX0_isRetained 3 (some .boolean), Cond.fieldLink RX0 149 "Privacyledger" "today" "I", Cond.fieldLink RX0 9 "Privacyledger" "retentionOfPurpose" "[I"]
def wsL_whyNoUse : List Cond := .codeWith yL_whyNoUse cL_whyNoUse 5 (some .int) [(0, 10, 13, 21)] :: ((wsL_whyNoUse_r1 ++ wsL_whyNoUse_r2) ++ wsX00 ++ (vx_atS RX0 190 "java/lang/IndexOutOfBoundsException" ["java/lang/RuntimeException", "java/lang/Exception"]).filter goodWord)
def wsL_use_r1 : List Cond := [Cond.classLink RL 21 "java/lang/IndexOutOfBoundsException", Cond.classLink RL 15 "java/lang/IllegalStateException", Cond.methodLink RL 58 yX0_use, Cond.instanceMethod yX0_use, Cond.selects RX0 yX0_use yX0_use, Cond.initialized RX0, Cond.code yX0_use cX0_use 4 (some .int), Cond.classLink RX0 45 "java/lang/IllegalStateException", Cond.initialized "java/lang/IllegalStateException", Cond.fieldLink RX0 31 "Privacyledger" "useCounts" "[I", Cond.methodLink RX0 136 yX0_whyNoUse, Cond.instanceMethod yX0_whyNoUse, Cond.selects RX0 yX0_whyNoUse yX0_whyNoUse, Cond.code yX0_whyNoUse cX0_whyNoUse 3 (some .int), Cond.fieldLink RX0 118 "Privacyledger" "erasedRecords" "I", Cond.fieldLink RX0 121 "Privacyledger" "requestedRecords" "I", Cond.fieldLink RX0 22 "Privacyledger" "purposesOfRecord" "[I", Cond.fieldLink RX0 25 "Privacyledger" "subjectsOfRecord" "[I", Cond.fieldLink RX0 19 "Privacyledger" "dayAdded" "[I", Cond.methodLink RX0 80 yX0_checkRecord, Cond.instanceMethod yX0_checkRecord, Cond.selects RX0 yX0_checkRecord yX0_checkRecord, Cond.code yX0_checkRecord cX0_checkRecord 2 none, Cond.classLink RX0 186 "java/lang/IndexOutOfBoundsException"]
def wsL_use_r2 : List Cond := [Cond.initialized "java/lang/IndexOutOfBoundsException", Cond.fieldLink RX0 115 "Privacyledger" "recordCount" "I", Cond.methodLink RX0 59 yX0_checkPurpose, Cond.instanceMethod yX0_checkPurpose, Cond.selects RX0 yX0_checkPurpose yX0_checkPurpose, Cond.code yX0_checkPurpose cX0_checkPurpose 2 none, Cond.fieldLink RX0 41 "Privacyledger" "purposeCount" "I", Cond.methodLink RX0 65 yX0_has, Cond.static yX0_has, Cond.code yX0_has cX0_has 2 (some .boolean), Cond.methodLink RX0 55 yX0_bit, Cond.static yX0_bit, Cond.code yX0_bit cX0_bit 1 (some .int), Cond.methodLink RX0 130 yX0_purposesAllowedBy, Cond.instanceMethod yX0_purposesAllowedBy, Cond.selects RX0 yX0_purposesAllowedBy yX0_purposesAllowedBy, Cond.code yX0_purposesAllowedBy cX0_purposesAllowedBy 4 (some .int), Cond.fieldLink RX0 13 "Privacyledger" "consentsOfSubject" "[I", Cond.fieldLink RX0 52 "Privacyledger" "purposesWithoutConsent" "I", Cond.methodLink RX0 193 yX0_allPurposes, Cond.instanceMethod yX0_allPurposes, Cond.selects RX0 yX0_allPurposes yX0_allPurposes, Cond.code yX0_allPurposes cX0_allPurposes 1 (some .int), Cond.methodLink RX0 133 yX0_isRetained]
def wsL_use_r3 : List Cond := [Cond.instanceMethod yX0_isRetained, Cond.selects RX0 yX0_isRetained yX0_isRetained, Cond.code yX0_isRetained cX0_isRetained 3 (some .boolean), Cond.fieldLink RX0 149 "Privacyledger" "today" "I", Cond.fieldLink RX0 9 "Privacyledger" "retentionOfPurpose" "[I", Cond.methodLink RX0 141 yX0_useIndex, Cond.static yX0_useIndex, Cond.code yX0_useIndex cX0_useIndex 2 (some .int)]
def wsL_use : List Cond := .codeWith yL_use cL_use 5 (some .int) [(0, 10, 13, 21), (0, 10, 17, 15)] :: ((wsL_use_r1 ++ (wsL_use_r2 ++ wsL_use_r3)) ++ wsX00 ++ (vx_atS RX0 49 "java/lang/IllegalStateException" ["java/lang/RuntimeException", "java/lang/Exception"]).filter goodWord ++ (vx_atS RX0 190 "java/lang/IndexOutOfBoundsException" ["java/lang/RuntimeException", "java/lang/Exception"]).filter goodWord)
def wsL_uses_r1 : List Cond := [Cond.classLink RL 21 "java/lang/IndexOutOfBoundsException", Cond.methodLink RL 61 yX0_uses, Cond.instanceMethod yX0_uses, Cond.selects RX0 yX0_uses yX0_uses, Cond.initialized RX0, Cond.code yX0_uses cX0_uses 5 (some .int), Cond.fieldLink RX0 115 "Privacyledger" "recordCount" "I", Cond.fieldLink RX0 25 "Privacyledger" "subjectsOfRecord" "[I", Cond.fieldLink RX0 31 "Privacyledger" "useCounts" "[I", Cond.methodLink RX0 62 yX0_checkSubject, Cond.instanceMethod yX0_checkSubject, Cond.selects RX0 yX0_checkSubject yX0_checkSubject, Cond.code yX0_checkSubject cX0_checkSubject 2 none, Cond.classLink RX0 186 "java/lang/IndexOutOfBoundsException", Cond.initialized "java/lang/IndexOutOfBoundsException", Cond.methodLink RX0 59 yX0_checkPurpose, Cond.instanceMethod yX0_checkPurpose, Cond.selects RX0 yX0_checkPurpose yX0_checkPurpose, Cond.code yX0_checkPurpose cX0_checkPurpose 2 none, Cond.fieldLink RX0 41 "Privacyledger" "purposeCount" "I", Cond.methodLink RX0 65 yX0_has, Cond.static yX0_has, Cond.code yX0_has cX0_has 2 (some .boolean), Cond.methodLink RX0 55 yX0_bit]
def wsL_uses_r2 : List Cond := [Cond.static yX0_bit, Cond.code yX0_bit cX0_bit 1 (some .int), Cond.methodLink RX0 141 yX0_useIndex, Cond.static yX0_useIndex, Cond.code yX0_useIndex cX0_useIndex 2 (some .int)]
def wsL_uses : List Cond := .codeWith yL_uses cL_uses 5 (some .int) [(0, 10, 13, 21)] :: ((wsL_uses_r1 ++ wsL_uses_r2) ++ wsX00 ++ (vx_atS RX0 190 "java/lang/IndexOutOfBoundsException" ["java/lang/RuntimeException", "java/lang/Exception"]).filter goodWord)
def wsL_passDays_r1 : List Cond := [Cond.classLink RL 13 "java/lang/IllegalArgumentException", Cond.methodLink RL 64 yX0_passDays, Cond.instanceMethod yX0_passDays, Cond.selects RX0 yX0_passDays yX0_passDays, Cond.initialized RX0, Cond.code yX0_passDays cX0_passDays 2 (some .int), Cond.classLink RX0 88 "java/lang/IllegalArgumentException", Cond.initialized "java/lang/IllegalArgumentException", Cond.fieldLink RX0 149 "Privacyledger" "today" "I", Cond.methodLink RX0 146 yX0_countDaysWithConsent, Cond.instanceMethod yX0_countDaysWithConsent, Cond.selects RX0 yX0_countDaysWithConsent yX0_countDaysWithConsent, Cond.code yX0_countDaysWithConsent cX0_countDaysWithConsent 4 none, Cond.fieldLink RX0 41 "Privacyledger" "purposeCount" "I", Cond.fieldLink RX0 13 "Privacyledger" "consentsOfSubject" "[I", Cond.fieldLink RX0 16 "Privacyledger" "consentDays" "[I", Cond.methodLink RX0 65 yX0_has, Cond.static yX0_has, Cond.code yX0_has cX0_has 2 (some .boolean), Cond.methodLink RX0 55 yX0_bit, Cond.static yX0_bit, Cond.code yX0_bit cX0_bit 1 (some .int), Cond.methodLink RX0 69 yX0_consentIndex, Cond.static yX0_consentIndex]
def wsL_passDays_r2 : List Cond := [Cond.code yX0_consentIndex cX0_consentIndex 2 (some .int), Cond.methodLink RX0 152 yX0_dueRecords, Cond.instanceMethod yX0_dueRecords, Cond.selects RX0 yX0_dueRecords yX0_dueRecords, Cond.code yX0_dueRecords cX0_dueRecords 3 (some .int), Cond.fieldLink RX0 115 "Privacyledger" "recordCount" "I", Cond.fieldLink RX0 83 "Privacyledger" "presentRecords" "I", Cond.fieldLink RX0 22 "Privacyledger" "purposesOfRecord" "[I", Cond.fieldLink RX0 25 "Privacyledger" "subjectsOfRecord" "[I", Cond.fieldLink RX0 19 "Privacyledger" "dayAdded" "[I", Cond.methodLink RX0 208 yX0_isAnyOpen, Cond.instanceMethod yX0_isAnyOpen, Cond.selects RX0 yX0_isAnyOpen yX0_isAnyOpen, Cond.code yX0_isAnyOpen cX0_isAnyOpen 6 (some .boolean), Cond.methodLink RX0 130 yX0_purposesAllowedBy, Cond.instanceMethod yX0_purposesAllowedBy, Cond.selects RX0 yX0_purposesAllowedBy yX0_purposesAllowedBy, Cond.code yX0_purposesAllowedBy cX0_purposesAllowedBy 4 (some .int), Cond.fieldLink RX0 52 "Privacyledger" "purposesWithoutConsent" "I", Cond.methodLink RX0 193 yX0_allPurposes, Cond.instanceMethod yX0_allPurposes, Cond.selects RX0 yX0_allPurposes yX0_allPurposes, Cond.code yX0_allPurposes cX0_allPurposes 1 (some .int), Cond.methodLink RX0 133 yX0_isRetained]
def wsL_passDays_r3 : List Cond := [Cond.instanceMethod yX0_isRetained, Cond.selects RX0 yX0_isRetained yX0_isRetained, Cond.code yX0_isRetained cX0_isRetained 3 (some .boolean), Cond.fieldLink RX0 9 "Privacyledger" "retentionOfPurpose" "[I", Cond.methodLink RX0 156 yX0_requestWithAllBelow, Cond.instanceMethod yX0_requestWithAllBelow, Cond.selects RX0 yX0_requestWithAllBelow yX0_requestWithAllBelow, Cond.code yX0_requestWithAllBelow cX0_requestWithAllBelow 3 (some .int), Cond.fieldLink RX0 121 "Privacyledger" "requestedRecords" "I", Cond.methodLink RX0 103 yX0_withAllBelow, Cond.instanceMethod yX0_withAllBelow, Cond.selects RX0 yX0_withAllBelow yX0_withAllBelow, Cond.code yX0_withAllBelow cX0_withAllBelow 4 (some .int), Cond.fieldLink RX0 28 "Privacyledger" "sourcesOfRecord" "[I", Cond.methodLink RX0 110 yJ6_bitCount_0f7a4, Cond.static yJ6_bitCount_0f7a4, Cond.initialized RJ6, Cond.code yJ6_bitCount_0f7a4 cJ6_bitCount_0f7a4 1 (some .int), Cond.constant RJ6 265 (1431655765), Cond.constant RJ6 266 (858993459), Cond.constant RJ6 267 (252645135)]
def wsL_passDays : List Cond := .codeWith yL_passDays cL_passDays 4 (some .int) [(0, 9, 12, 13)] :: ((wsL_passDays_r1 ++ (wsL_passDays_r2 ++ wsL_passDays_r3)) ++ wsX00 ++ (vx_atS RX0 92 "java/lang/IllegalArgumentException" ["java/lang/RuntimeException", "java/lang/Exception"]).filter goodWord)
def wsL_hold_r1 : List Cond := [Cond.classLink RL 21 "java/lang/IndexOutOfBoundsException", Cond.classLink RL 15 "java/lang/IllegalStateException", Cond.methodLink RL 67 yX0_hold, Cond.instanceMethod yX0_hold, Cond.selects RX0 yX0_hold yX0_hold, Cond.initialized RX0, Cond.code yX0_hold cX0_hold 3 (some .int), Cond.classLink RX0 45 "java/lang/IllegalStateException", Cond.initialized "java/lang/IllegalStateException", Cond.fieldLink RX0 118 "Privacyledger" "erasedRecords" "I", Cond.fieldLink RX0 34 "Privacyledger" "recordsOfCase" "[I", Cond.methodLink RX0 164 yX0_checkCase, Cond.instanceMethod yX0_checkCase, Cond.selects RX0 yX0_checkCase yX0_checkCase, Cond.code yX0_checkCase cX0_checkCase 2 none, Cond.classLink RX0 186 "java/lang/IndexOutOfBoundsException", Cond.initialized "java/lang/IndexOutOfBoundsException", Cond.methodLink RX0 80 yX0_checkRecord, Cond.instanceMethod yX0_checkRecord, Cond.selects RX0 yX0_checkRecord yX0_checkRecord, Cond.code yX0_checkRecord cX0_checkRecord 2 none, Cond.fieldLink RX0 115 "Privacyledger" "recordCount" "I", Cond.methodLink RX0 65 yX0_has, Cond.static yX0_has]
def wsL_hold_r2 : List Cond := [Cond.code yX0_has cX0_has 2 (some .boolean), Cond.methodLink RX0 55 yX0_bit, Cond.static yX0_bit, Cond.code yX0_bit cX0_bit 1 (some .int), Cond.methodLink RX0 110 yJ6_bitCount_0f7a4, Cond.static yJ6_bitCount_0f7a4, Cond.initialized RJ6, Cond.code yJ6_bitCount_0f7a4 cJ6_bitCount_0f7a4 1 (some .int), Cond.constant RJ6 265 (1431655765), Cond.constant RJ6 266 (858993459), Cond.constant RJ6 267 (252645135)]
def wsL_hold : List Cond := .codeWith yL_hold cL_hold 5 (some .int) [(0, 10, 13, 21), (0, 10, 17, 15)] :: ((wsL_hold_r1 ++ wsL_hold_r2) ++ wsX00 ++ (vx_atS RX0 49 "java/lang/IllegalStateException" ["java/lang/RuntimeException", "java/lang/Exception"]).filter goodWord ++ (vx_atS RX0 190 "java/lang/IndexOutOfBoundsException" ["java/lang/RuntimeException", "java/lang/Exception"]).filter goodWord)
def wsL_close : List Cond := .codeWith yL_close cL_close 4 (some .int) [(0, 9, 12, 21)] :: ([.classLink RL 21 "java/lang/IndexOutOfBoundsException", .methodLink RL 70 yX0_close, .instanceMethod yX0_close, .selects RX0 yX0_close yX0_close, .initialized RX0, .code yX0_close cX0_close 3 (some .int), .fieldLink RX0 34 "Privacyledger" "recordsOfCase" "[I", .methodLink RX0 164 yX0_checkCase, .instanceMethod yX0_checkCase, .selects RX0 yX0_checkCase yX0_checkCase, .code yX0_checkCase cX0_checkCase 2 none, .classLink RX0 186 "java/lang/IndexOutOfBoundsException", .initialized "java/lang/IndexOutOfBoundsException", .methodLink RX0 171 yX0_heldRecords, .instanceMethod yX0_heldRecords, .selects RX0 yX0_heldRecords yX0_heldRecords, .code yX0_heldRecords cX0_heldRecords 3 (some .int), .methodLink RX0 110 yJ6_bitCount_0f7a4, .static yJ6_bitCount_0f7a4, .initialized RJ6, .code yJ6_bitCount_0f7a4 cJ6_bitCount_0f7a4 1 (some .int), .constant RJ6 265 (1431655765), .constant RJ6 266 (858993459), .constant RJ6 267 (252645135)] ++ wsX00 ++ (vx_atS RX0 190 "java/lang/IndexOutOfBoundsException" ["java/lang/RuntimeException", "java/lang/Exception"]).filter goodWord)
def wsL_request_r1 : List Cond := [Cond.classLink RL 21 "java/lang/IndexOutOfBoundsException", Cond.methodLink RL 73 yX0_request, Cond.instanceMethod yX0_request, Cond.selects RX0 yX0_request yX0_request, Cond.initialized RX0, Cond.code yX0_request cX0_request 2 (some .int), Cond.fieldLink RX0 83 "Privacyledger" "presentRecords" "I", Cond.methodLink RX0 62 yX0_checkSubject, Cond.instanceMethod yX0_checkSubject, Cond.selects RX0 yX0_checkSubject yX0_checkSubject, Cond.code yX0_checkSubject cX0_checkSubject 2 none, Cond.classLink RX0 186 "java/lang/IndexOutOfBoundsException", Cond.initialized "java/lang/IndexOutOfBoundsException", Cond.methodLink RX0 174 yX0_recordsOf, Cond.instanceMethod yX0_recordsOf, Cond.selects RX0 yX0_recordsOf yX0_recordsOf, Cond.code yX0_recordsOf cX0_recordsOf 4 (some .int), Cond.fieldLink RX0 115 "Privacyledger" "recordCount" "I", Cond.fieldLink RX0 25 "Privacyledger" "subjectsOfRecord" "[I", Cond.methodLink RX0 65 yX0_has, Cond.static yX0_has, Cond.code yX0_has cX0_has 2 (some .boolean), Cond.methodLink RX0 55 yX0_bit, Cond.static yX0_bit]
def wsL_request_r2 : List Cond := [Cond.code yX0_bit cX0_bit 1 (some .int), Cond.methodLink RX0 156 yX0_requestWithAllBelow, Cond.instanceMethod yX0_requestWithAllBelow, Cond.selects RX0 yX0_requestWithAllBelow yX0_requestWithAllBelow, Cond.code yX0_requestWithAllBelow cX0_requestWithAllBelow 3 (some .int), Cond.fieldLink RX0 121 "Privacyledger" "requestedRecords" "I", Cond.methodLink RX0 103 yX0_withAllBelow, Cond.instanceMethod yX0_withAllBelow, Cond.selects RX0 yX0_withAllBelow yX0_withAllBelow, Cond.code yX0_withAllBelow cX0_withAllBelow 4 (some .int), Cond.fieldLink RX0 28 "Privacyledger" "sourcesOfRecord" "[I", Cond.methodLink RX0 110 yJ6_bitCount_0f7a4, Cond.static yJ6_bitCount_0f7a4, Cond.initialized RJ6, Cond.code yJ6_bitCount_0f7a4 cJ6_bitCount_0f7a4 1 (some .int), Cond.constant RJ6 265 (1431655765), Cond.constant RJ6 266 (858993459), Cond.constant RJ6 267 (252645135)]
def wsL_request : List Cond := .codeWith yL_request cL_request 4 (some .int) [(0, 9, 12, 21)] :: ((wsL_request_r1 ++ wsL_request_r2) ++ wsX00 ++ (vx_atS RX0 190 "java/lang/IndexOutOfBoundsException" ["java/lang/RuntimeException", "java/lang/Exception"]).filter goodWord)
def wsL_whyKept_r1 : List Cond := [Cond.classLink RL 21 "java/lang/IndexOutOfBoundsException", Cond.methodLink RL 76 yX0_whyKept, Cond.instanceMethod yX0_whyKept, Cond.selects RX0 yX0_whyKept yX0_whyKept, Cond.initialized RX0, Cond.code yX0_whyKept cX0_whyKept 2 (some .int), Cond.fieldLink RX0 118 "Privacyledger" "erasedRecords" "I", Cond.fieldLink RX0 83 "Privacyledger" "presentRecords" "I", Cond.methodLink RX0 80 yX0_checkRecord, Cond.instanceMethod yX0_checkRecord, Cond.selects RX0 yX0_checkRecord yX0_checkRecord, Cond.code yX0_checkRecord cX0_checkRecord 2 none, Cond.classLink RX0 186 "java/lang/IndexOutOfBoundsException", Cond.initialized "java/lang/IndexOutOfBoundsException", Cond.fieldLink RX0 115 "Privacyledger" "recordCount" "I", Cond.methodLink RX0 65 yX0_has, Cond.static yX0_has, Cond.code yX0_has cX0_has 2 (some .boolean), Cond.methodLink RX0 55 yX0_bit, Cond.static yX0_bit, Cond.code yX0_bit cX0_bit 1 (some .int), Cond.methodLink RX0 171 yX0_heldRecords, Cond.instanceMethod yX0_heldRecords, Cond.selects RX0 yX0_heldRecords yX0_heldRecords]
def wsL_whyKept_r2 : List Cond := [Cond.code yX0_heldRecords cX0_heldRecords 3 (some .int), Cond.fieldLink RX0 34 "Privacyledger" "recordsOfCase" "[I", Cond.methodLink RX0 124 yX0_allBelow, Cond.instanceMethod yX0_allBelow, Cond.selects RX0 yX0_allBelow yX0_allBelow, Cond.code yX0_allBelow cX0_allBelow 2 (some .int), Cond.methodLink RX0 103 yX0_withAllBelow, Cond.instanceMethod yX0_withAllBelow, Cond.selects RX0 yX0_withAllBelow yX0_withAllBelow, Cond.code yX0_withAllBelow cX0_withAllBelow 4 (some .int), Cond.fieldLink RX0 28 "Privacyledger" "sourcesOfRecord" "[I"]
def wsL_whyKept : List Cond := .codeWith yL_whyKept cL_whyKept 4 (some .int) [(0, 9, 12, 21)] :: ((wsL_whyKept_r1 ++ wsL_whyKept_r2) ++ wsX00 ++ (vx_atS RX0 190 "java/lang/IndexOutOfBoundsException" ["java/lang/RuntimeException", "java/lang/Exception"]).filter goodWord)
def wsL_traces_r1 : List Cond := [Cond.classLink RL 21 "java/lang/IndexOutOfBoundsException", Cond.methodLink RL 79 yX0_traces, Cond.instanceMethod yX0_traces, Cond.selects RX0 yX0_traces yX0_traces, Cond.initialized RX0, Cond.code yX0_traces cX0_traces 2 (some .int), Cond.fieldLink RX0 118 "Privacyledger" "erasedRecords" "I", Cond.methodLink RX0 62 yX0_checkSubject, Cond.instanceMethod yX0_checkSubject, Cond.selects RX0 yX0_checkSubject yX0_checkSubject, Cond.code yX0_checkSubject cX0_checkSubject 2 none, Cond.classLink RX0 186 "java/lang/IndexOutOfBoundsException", Cond.initialized "java/lang/IndexOutOfBoundsException", Cond.methodLink RX0 174 yX0_recordsOf, Cond.instanceMethod yX0_recordsOf, Cond.selects RX0 yX0_recordsOf yX0_recordsOf, Cond.code yX0_recordsOf cX0_recordsOf 4 (some .int), Cond.fieldLink RX0 115 "Privacyledger" "recordCount" "I", Cond.fieldLink RX0 25 "Privacyledger" "subjectsOfRecord" "[I", Cond.methodLink RX0 65 yX0_has, Cond.static yX0_has, Cond.code yX0_has cX0_has 2 (some .boolean), Cond.methodLink RX0 55 yX0_bit, Cond.static yX0_bit]
def wsL_traces_r2 : List Cond := [Cond.code yX0_bit cX0_bit 1 (some .int)]
def wsL_traces : List Cond := .codeWith yL_traces cL_traces 4 (some .int) [(0, 9, 12, 21)] :: ((wsL_traces_r1 ++ wsL_traces_r2) ++ wsX00 ++ (vx_atS RX0 190 "java/lang/IndexOutOfBoundsException" ["java/lang/RuntimeException", "java/lang/Exception"]).filter goodWord)
def wsL_tracesFromRoots_r1 : List Cond := [Cond.classLink RL 21 "java/lang/IndexOutOfBoundsException", Cond.methodLink RL 82 yX0_tracesFromRoots, Cond.instanceMethod yX0_tracesFromRoots, Cond.selects RX0 yX0_tracesFromRoots yX0_tracesFromRoots, Cond.initialized RX0, Cond.code yX0_tracesFromRoots cX0_tracesFromRoots 2 (some .int), Cond.fieldLink RX0 118 "Privacyledger" "erasedRecords" "I", Cond.methodLink RX0 62 yX0_checkSubject, Cond.instanceMethod yX0_checkSubject, Cond.selects RX0 yX0_checkSubject yX0_checkSubject, Cond.code yX0_checkSubject cX0_checkSubject 2 none, Cond.classLink RX0 186 "java/lang/IndexOutOfBoundsException", Cond.initialized "java/lang/IndexOutOfBoundsException", Cond.methodLink RX0 183 yX0_rootsOf, Cond.instanceMethod yX0_rootsOf, Cond.selects RX0 yX0_rootsOf yX0_rootsOf, Cond.code yX0_rootsOf cX0_rootsOf 4 (some .int), Cond.fieldLink RX0 115 "Privacyledger" "recordCount" "I", Cond.fieldLink RX0 25 "Privacyledger" "subjectsOfRecord" "[I", Cond.methodLink RX0 95 yX0_isRoot, Cond.instanceMethod yX0_isRoot, Cond.selects RX0 yX0_isRoot yX0_isRoot, Cond.code yX0_isRoot cX0_isRoot 2 (some .boolean), Cond.fieldLink RX0 28 "Privacyledger" "sourcesOfRecord" "[I"]
def wsL_tracesFromRoots_r2 : List Cond := [Cond.methodLink RX0 65 yX0_has, Cond.static yX0_has, Cond.code yX0_has cX0_has 2 (some .boolean), Cond.methodLink RX0 55 yX0_bit, Cond.static yX0_bit, Cond.code yX0_bit cX0_bit 1 (some .int), Cond.methodLink RX0 103 yX0_withAllBelow, Cond.instanceMethod yX0_withAllBelow, Cond.selects RX0 yX0_withAllBelow yX0_withAllBelow, Cond.code yX0_withAllBelow cX0_withAllBelow 4 (some .int)]
def wsL_tracesFromRoots : List Cond := .codeWith yL_tracesFromRoots cL_tracesFromRoots 4 (some .int) [(0, 9, 12, 21)] :: ((wsL_tracesFromRoots_r1 ++ wsL_tracesFromRoots_r2) ++ wsX00 ++ (vx_atS RX0 190 "java/lang/IndexOutOfBoundsException" ["java/lang/RuntimeException", "java/lang/Exception"]).filter goodWord)
def wsL_law0_r1 : List Cond := [Cond.classLink RL 8 RX0, Cond.instantiable RX0 16, Cond.initialized RX0, Cond.classLink RL 86 RX1, Cond.instantiable RX1 15, Cond.initialized RX1, Cond.arrayClass .long, Cond.methodLink RL 85 yX0_init, Cond.instanceMethod yX0_init, Cond.code yX0_init cX0_init 1 none, Cond.methodLink RX0 1 objectInit, Cond.instanceMethod objectInit, Cond.code objectInit ⟨#[0xb1]⟩ 1 none, Cond.arrayClass .int, Cond.fieldLink RX0 9 "Privacyledger" "retentionOfPurpose" "[I", Cond.fieldLink RX0 13 "Privacyledger" "consentsOfSubject" "[I", Cond.fieldLink RX0 16 "Privacyledger" "consentDays" "[I", Cond.fieldLink RX0 19 "Privacyledger" "dayAdded" "[I", Cond.fieldLink RX0 22 "Privacyledger" "purposesOfRecord" "[I", Cond.fieldLink RX0 25 "Privacyledger" "subjectsOfRecord" "[I", Cond.fieldLink RX0 28 "Privacyledger" "sourcesOfRecord" "[I", Cond.fieldLink RX0 31 "Privacyledger" "useCounts" "[I", Cond.fieldLink RX0 34 "Privacyledger" "recordsOfCase" "[I", Cond.methodLink RL 88 yX1_init]
def wsL_law0_r2 : List Cond := [Cond.instanceMethod yX1_init, Cond.code yX1_init cX1_init 1 none, Cond.methodLink RX1 1 objectInit, Cond.fieldLink RX1 7 "PrivacyledgerModel" "retention" "[I", Cond.arrayClass .boolean, Cond.fieldLink RX1 13 "PrivacyledgerModel" "needs" "[Z", Cond.fieldLink RX1 17 "PrivacyledgerModel" "consented" "[I", Cond.fieldLink RX1 20 "PrivacyledgerModel" "days" "[I", Cond.fieldLink RX1 23 "PrivacyledgerModel" "root" "[I", Cond.fieldLink RX1 26 "PrivacyledgerModel" "sources" "[I", Cond.fieldLink RX1 29 "PrivacyledgerModel" "goals" "[I", Cond.fieldLink RX1 32 "PrivacyledgerModel" "added" "[I", Cond.fieldLink RX1 35 "PrivacyledgerModel" "state" "[I", Cond.fieldLink RX1 38 "PrivacyledgerModel" "used" "[I", Cond.fieldLink RX1 41 "PrivacyledgerModel" "holds" "[I", Cond.methodLink RL 89 yL_addPurpose, Cond.static yL_addPurpose, Cond.initialized RL, Cond.codeWith yL_addPurpose cL_addPurpose 5 (some .int) [(0, 10, 13, 13), (0, 10, 17, 15)], Cond.classLink RL 13 "java/lang/IllegalArgumentException", Cond.classLink RL 15 "java/lang/IllegalStateException", Cond.methodLink RL 7 yX0_addPurpose, Cond.instanceMethod yX0_addPurpose, Cond.selects RX0 yX0_addPurpose yX0_addPurpose]
def wsL_law0_r3 : List Cond := [Cond.code yX0_addPurpose cX0_addPurpose 4 (some .int), Cond.classLink RX0 45 "java/lang/IllegalStateException", Cond.initialized "java/lang/IllegalStateException", Cond.fieldLink RX0 41 "Privacyledger" "purposeCount" "I", Cond.fieldLink RX0 52 "Privacyledger" "purposesWithoutConsent" "I", Cond.methodLink RX0 37 yX0_checkRetention, Cond.instanceMethod yX0_checkRetention, Cond.selects RX0 yX0_checkRetention yX0_checkRetention, Cond.code yX0_checkRetention cX0_checkRetention 2 none, Cond.classLink RX0 88 "java/lang/IllegalArgumentException", Cond.initialized "java/lang/IllegalArgumentException", Cond.methodLink RX0 55 yX0_bit, Cond.static yX0_bit, Cond.code yX0_bit cX0_bit 1 (some .int), Cond.methodLink RL 94 yX1_addPurpose, Cond.instanceMethod yX1_addPurpose, Cond.selects RX1 yX1_addPurpose yX1_addPurpose, Cond.code yX1_addPurpose cX1_addPurpose 3 (some .int), Cond.fieldLink RX1 44 "PrivacyledgerModel" "thrown" "I", Cond.fieldLink RX1 52 "PrivacyledgerModel" "purposes" "I", Cond.methodLink RX1 48 yX1_in, Cond.static yX1_in, Cond.code yX1_in cX1_in 3 (some .boolean), Cond.methodLink RX1 58 yX1_fails]
def wsL_law0_r4 : List Cond := [Cond.instanceMethod yX1_fails, Cond.selects RX1 yX1_fails yX1_fails, Cond.code yX1_fails cX1_fails 2 (some .int), Cond.methodLink RL 95 yX1_thrown, Cond.instanceMethod yX1_thrown, Cond.selects RX1 yX1_thrown yX1_thrown, Cond.code yX1_thrown cX1_thrown 1 (some .int), Cond.methodLink RL 99 yL_setRetention, Cond.static yL_setRetention, Cond.codeWith yL_setRetention cL_setRetention 5 (some .int) [(0, 10, 13, 21), (0, 10, 17, 13)], Cond.classLink RL 21 "java/lang/IndexOutOfBoundsException", Cond.methodLink RL 17 yX0_setRetention, Cond.instanceMethod yX0_setRetention, Cond.selects RX0 yX0_setRetention yX0_setRetention, Cond.code yX0_setRetention cX0_setRetention 4 (some .int), Cond.methodLink RX0 59 yX0_checkPurpose, Cond.instanceMethod yX0_checkPurpose, Cond.selects RX0 yX0_checkPurpose yX0_checkPurpose, Cond.code yX0_checkPurpose cX0_checkPurpose 2 none, Cond.classLink RX0 186 "java/lang/IndexOutOfBoundsException", Cond.initialized "java/lang/IndexOutOfBoundsException", Cond.methodLink RL 102 yX1_setRetention, Cond.instanceMethod yX1_setRetention, Cond.selects RX1 yX1_setRetention yX1_setRetention]
def wsL_law0_r5 : List Cond := [Cond.code yX1_setRetention cX1_setRetention 4 (some .int), Cond.methodLink RX1 62 yX1_isPurpose, Cond.instanceMethod yX1_isPurpose, Cond.selects RX1 yX1_isPurpose yX1_isPurpose, Cond.code yX1_isPurpose cX1_isPurpose 2 (some .boolean), Cond.methodLink RL 103 yL_consent, Cond.static yL_consent, Cond.codeWith yL_consent cL_consent 6 (some .int) [(0, 19, 22, 21)], Cond.methodLink RL 23 yX0_consent, Cond.instanceMethod yX0_consent, Cond.selects RX0 yX0_consent yX0_consent, Cond.code yX0_consent cX0_consent 4 (some .boolean), Cond.methodLink RX0 62 yX0_checkSubject, Cond.instanceMethod yX0_checkSubject, Cond.selects RX0 yX0_checkSubject yX0_checkSubject, Cond.code yX0_checkSubject cX0_checkSubject 2 none, Cond.methodLink RX0 65 yX0_has, Cond.static yX0_has, Cond.code yX0_has cX0_has 2 (some .boolean), Cond.methodLink RL 106 yX1_consent, Cond.instanceMethod yX1_consent, Cond.selects RX1 yX1_consent yX1_consent, Cond.code yX1_consent cX1_consent 4 (some .boolean), Cond.methodLink RX1 66 yX1_isSubject]
def wsL_law0_r6 : List Cond := [Cond.static yX1_isSubject, Cond.code yX1_isSubject cX1_isSubject 1 (some .boolean), Cond.methodLink RX1 69 yX1_has, Cond.static yX1_has, Cond.code yX1_has cX1_has 2 (some .boolean), Cond.methodLink RL 107 yL_consents, Cond.static yL_consents, Cond.codeWith yL_consents cL_consents 4 (some .int) [(0, 9, 12, 21)], Cond.methodLink RL 27 yX0_consents, Cond.instanceMethod yX0_consents, Cond.selects RX0 yX0_consents yX0_consents, Cond.code yX0_consents cX0_consents 2 (some .int), Cond.methodLink RL 110 yX1_consents, Cond.instanceMethod yX1_consents, Cond.selects RX1 yX1_consents yX1_consents, Cond.code yX1_consents cX1_consents 2 (some .int), Cond.methodLink RL 111 yL_daysWithConsent, Cond.static yL_daysWithConsent, Cond.codeWith yL_daysWithConsent cL_daysWithConsent 5 (some .int) [(0, 10, 13, 21)], Cond.methodLink RL 31 yX0_daysWithConsent, Cond.instanceMethod yX0_daysWithConsent, Cond.selects RX0 yX0_daysWithConsent yX0_daysWithConsent, Cond.code yX0_daysWithConsent cX0_daysWithConsent 3 (some .int), Cond.methodLink RX0 69 yX0_consentIndex]
def wsL_law0_r7 : List Cond := [Cond.static yX0_consentIndex, Cond.code yX0_consentIndex cX0_consentIndex 2 (some .int), Cond.methodLink RL 113 yX1_daysWithConsent, Cond.instanceMethod yX1_daysWithConsent, Cond.selects RX1 yX1_daysWithConsent yX1_daysWithConsent, Cond.code yX1_daysWithConsent cX1_daysWithConsent 3 (some .int), Cond.methodLink RL 114 yL_add, Cond.static yL_add, Cond.codeWith yL_add cL_add 5 (some .int) [(0, 10, 13, 21), (0, 10, 17, 13), (0, 10, 21, 15)], Cond.methodLink RL 34 yX0_add, Cond.instanceMethod yX0_add, Cond.selects RX0 yX0_add yX0_add, Cond.code yX0_add cX0_add 3 (some .int), Cond.methodLink RX0 73 yX0_checkPurposes, Cond.instanceMethod yX0_checkPurposes, Cond.selects RX0 yX0_checkPurposes yX0_checkPurposes, Cond.code yX0_checkPurposes cX0_checkPurposes 2 none, Cond.methodLink RX0 193 yX0_allPurposes, Cond.instanceMethod yX0_allPurposes, Cond.selects RX0 yX0_allPurposes yX0_allPurposes, Cond.code yX0_allPurposes cX0_allPurposes 1 (some .int), Cond.methodLink RX0 76 yX0_addRecord, Cond.instanceMethod yX0_addRecord, Cond.selects RX0 yX0_addRecord yX0_addRecord]
def wsL_law0_r8 : List Cond := [Cond.code yX0_addRecord cX0_addRecord 5 (some .int), Cond.fieldLink RX0 115 "Privacyledger" "recordCount" "I", Cond.fieldLink RX0 149 "Privacyledger" "today" "I", Cond.fieldLink RX0 83 "Privacyledger" "presentRecords" "I", Cond.methodLink RX0 208 yX0_isAnyOpen, Cond.instanceMethod yX0_isAnyOpen, Cond.selects RX0 yX0_isAnyOpen yX0_isAnyOpen, Cond.code yX0_isAnyOpen cX0_isAnyOpen 6 (some .boolean), Cond.methodLink RX0 130 yX0_purposesAllowedBy, Cond.instanceMethod yX0_purposesAllowedBy, Cond.selects RX0 yX0_purposesAllowedBy yX0_purposesAllowedBy, Cond.code yX0_purposesAllowedBy cX0_purposesAllowedBy 4 (some .int), Cond.methodLink RX0 133 yX0_isRetained, Cond.instanceMethod yX0_isRetained, Cond.selects RX0 yX0_isRetained yX0_isRetained, Cond.code yX0_isRetained cX0_isRetained 3 (some .boolean), Cond.methodLink RL 116 yX1_add, Cond.instanceMethod yX1_add, Cond.selects RX1 yX1_add yX1_add, Cond.code yX1_add cX1_add 3 (some .int), Cond.fieldLink RX1 55 "PrivacyledgerModel" "many" "I", Cond.fieldLink RX1 86 "PrivacyledgerModel" "today" "I", Cond.methodLink RX1 89 yX1_isSet, Cond.instanceMethod yX1_isSet]
def wsL_law0_r9 : List Cond := [Cond.selects RX1 yX1_isSet yX1_isSet, Cond.code yX1_isSet cX1_isSet 2 (some .boolean), Cond.methodLink RX1 82 yX1_endBy, Cond.instanceMethod yX1_endBy, Cond.selects RX1 yX1_endBy yX1_endBy, Cond.code yX1_endBy cX1_endBy 6 (some .int), Cond.methodLink RX1 76 yX1_isAllowed, Cond.instanceMethod yX1_isAllowed, Cond.selects RX1 yX1_isAllowed yX1_isAllowed, Cond.code yX1_isAllowed cX1_isAllowed 5 (some .boolean), Cond.methodLink RX1 92 yX1_lays, Cond.instanceMethod yX1_lays, Cond.selects RX1 yX1_lays yX1_lays, Cond.code yX1_lays cX1_lays 4 (some .int), Cond.methodLink RL 117 yL_derive, Cond.static yL_derive, Cond.codeWith yL_derive cL_derive 5 (some .int) [(0, 10, 13, 21), (0, 10, 17, 13), (0, 10, 21, 15)], Cond.methodLink RL 37 yX0_derive, Cond.instanceMethod yX0_derive, Cond.selects RX0 yX0_derive yX0_derive, Cond.code yX0_derive cX0_derive 3 (some .int), Cond.methodLink RX0 80 yX0_checkRecord, Cond.instanceMethod yX0_checkRecord, Cond.selects RX0 yX0_checkRecord yX0_checkRecord]
def wsL_law0_r10 : List Cond := [Cond.code yX0_checkRecord cX0_checkRecord 2 none, Cond.methodLink RL 119 yX1_derive, Cond.instanceMethod yX1_derive, Cond.selects RX1 yX1_derive yX1_derive, Cond.code yX1_derive cX1_derive 3 (some .int), Cond.methodLink RX1 95 yX1_isRecord, Cond.instanceMethod yX1_isRecord, Cond.selects RX1 yX1_isRecord yX1_isRecord, Cond.code yX1_isRecord cX1_isRecord 2 (some .boolean), Cond.methodLink RX1 79 yX1_subjects, Cond.instanceMethod yX1_subjects, Cond.selects RX1 yX1_subjects yX1_subjects, Cond.code yX1_subjects cX1_subjects 5 (some .int), Cond.methodLink RX1 73 yX1_aboveOf, Cond.instanceMethod yX1_aboveOf, Cond.selects RX1 yX1_aboveOf yX1_aboveOf, Cond.code yX1_aboveOf cX1_aboveOf 4 (some .int), Cond.methodLink RL 120 yL_addSource, Cond.static yL_addSource, Cond.codeWith yL_addSource cL_addSource 5 (some .int) [(0, 10, 13, 21), (0, 10, 17, 13), (0, 10, 21, 15)], Cond.methodLink RL 40 yX0_addSource, Cond.instanceMethod yX0_addSource, Cond.selects RX0 yX0_addSource yX0_addSource, Cond.code yX0_addSource cX0_addSource 3 (some .int)]
def wsL_law0_r11 : List Cond := [Cond.methodLink RX0 95 yX0_isRoot, Cond.instanceMethod yX0_isRoot, Cond.selects RX0 yX0_isRoot yX0_isRoot, Cond.code yX0_isRoot cX0_isRoot 2 (some .boolean), Cond.methodLink RX0 103 yX0_withAllBelow, Cond.instanceMethod yX0_withAllBelow, Cond.selects RX0 yX0_withAllBelow yX0_withAllBelow, Cond.code yX0_withAllBelow cX0_withAllBelow 4 (some .int), Cond.methodLink RX0 106 yX0_addSubjects, Cond.instanceMethod yX0_addSubjects, Cond.selects RX0 yX0_addSubjects yX0_addSubjects, Cond.code yX0_addSubjects cX0_addSubjects 4 none, Cond.methodLink RX0 110 yJ6_bitCount_0f7a4, Cond.static yJ6_bitCount_0f7a4, Cond.initialized RJ6, Cond.code yJ6_bitCount_0f7a4 cJ6_bitCount_0f7a4 1 (some .int), Cond.constant RJ6 265 (1431655765), Cond.constant RJ6 266 (858993459), Cond.constant RJ6 267 (252645135), Cond.methodLink RL 122 yX1_addSource, Cond.instanceMethod yX1_addSource, Cond.selects RX1 yX1_addSource yX1_addSource, Cond.code yX1_addSource cX1_addSource 3 (some .int), Cond.methodLink RX1 98 yX1_sizeOf]
def wsL_law0_r12 : List Cond := [Cond.static yX1_sizeOf, Cond.code yX1_sizeOf cX1_sizeOf 3 (some .int), Cond.methodLink RL 123 yX0_records, Cond.instanceMethod yX0_records, Cond.selects RX0 yX0_records yX0_records, Cond.code yX0_records cX0_records 1 (some .int), Cond.methodLink RL 126 yX1_records, Cond.instanceMethod yX1_records, Cond.selects RX1 yX1_records yX1_records, Cond.code yX1_records cX1_records 1 (some .int), Cond.methodLink RL 127 yL_stateOf, Cond.static yL_stateOf, Cond.codeWith yL_stateOf cL_stateOf 4 (some .int) [(0, 9, 12, 21)], Cond.methodLink RL 43 yX0_stateOf, Cond.instanceMethod yX0_stateOf, Cond.selects RX0 yX0_stateOf yX0_stateOf, Cond.code yX0_stateOf cX0_stateOf 2 (some .int), Cond.fieldLink RX0 118 "Privacyledger" "erasedRecords" "I", Cond.fieldLink RX0 121 "Privacyledger" "requestedRecords" "I", Cond.methodLink RL 129 yX1_stateOf, Cond.instanceMethod yX1_stateOf, Cond.selects RX1 yX1_stateOf yX1_stateOf, Cond.code yX1_stateOf cX1_stateOf 2 (some .int), Cond.methodLink RL 130 yL_subjectsOf]
def wsL_law0_r13 : List Cond := [Cond.static yL_subjectsOf, Cond.codeWith yL_subjectsOf cL_subjectsOf 4 (some .int) [(0, 9, 12, 21)], Cond.methodLink RL 46 yX0_subjectsOf, Cond.instanceMethod yX0_subjectsOf, Cond.selects RX0 yX0_subjectsOf yX0_subjectsOf, Cond.code yX0_subjectsOf cX0_subjectsOf 2 (some .int), Cond.methodLink RL 132 yX1_subjectsOf, Cond.instanceMethod yX1_subjectsOf, Cond.selects RX1 yX1_subjectsOf yX1_subjectsOf, Cond.code yX1_subjectsOf cX1_subjectsOf 2 (some .int), Cond.methodLink RL 133 yL_below, Cond.static yL_below, Cond.codeWith yL_below cL_below 4 (some .int) [(0, 9, 12, 21)], Cond.methodLink RL 49 yX0_below, Cond.instanceMethod yX0_below, Cond.selects RX0 yX0_below yX0_below, Cond.code yX0_below cX0_below 2 (some .int), Cond.methodLink RX0 124 yX0_allBelow, Cond.instanceMethod yX0_allBelow, Cond.selects RX0 yX0_allBelow yX0_allBelow, Cond.code yX0_allBelow cX0_allBelow 2 (some .int), Cond.methodLink RL 135 yX1_below, Cond.instanceMethod yX1_below, Cond.selects RX1 yX1_below yX1_below]
def wsL_law0_r14 : List Cond := [Cond.code yX1_below cX1_below 2 (some .int), Cond.methodLink RX1 101 yX1_belowOf, Cond.instanceMethod yX1_belowOf, Cond.selects RX1 yX1_belowOf yX1_belowOf, Cond.code yX1_belowOf cX1_belowOf 4 (some .int), Cond.methodLink RL 136 yL_endOf, Cond.static yL_endOf, Cond.codeWith yL_endOf cL_endOf 4 (some .int) [(0, 9, 12, 21)], Cond.methodLink RL 52 yX0_endOf, Cond.instanceMethod yX0_endOf, Cond.selects RX0 yX0_endOf yX0_endOf, Cond.code yX0_endOf cX0_endOf 2 (some .int), Cond.methodLink RX0 127 yX0_endNow, Cond.instanceMethod yX0_endNow, Cond.selects RX0 yX0_endNow yX0_endNow, Cond.code yX0_endNow cX0_endNow 5 (some .int), Cond.methodLink RX0 214 Lib.Math.max.name, Cond.static Lib.Math.max.name, Cond.initialized "java/lang/Math", Cond.code Lib.Math.max.name Lib.Math.max.code 2 (some .int), Cond.methodLink RL 138 yX1_endOf, Cond.instanceMethod yX1_endOf, Cond.selects RX1 yX1_endOf yX1_endOf, Cond.code yX1_endOf cX1_endOf 2 (some .int)]
def wsL_law0_r15 : List Cond := [Cond.methodLink RX1 104 yX1_end, Cond.instanceMethod yX1_end, Cond.selects RX1 yX1_end yX1_end, Cond.code yX1_end cX1_end 2 (some .int), Cond.methodLink RL 139 yL_whyNoUse, Cond.static yL_whyNoUse, Cond.codeWith yL_whyNoUse cL_whyNoUse 5 (some .int) [(0, 10, 13, 21)], Cond.methodLink RL 55 yX0_whyNoUse, Cond.instanceMethod yX0_whyNoUse, Cond.selects RX0 yX0_whyNoUse yX0_whyNoUse, Cond.code yX0_whyNoUse cX0_whyNoUse 3 (some .int), Cond.methodLink RL 141 yX1_whyNoUse, Cond.instanceMethod yX1_whyNoUse, Cond.selects RX1 yX1_whyNoUse yX1_whyNoUse, Cond.code yX1_whyNoUse cX1_whyNoUse 3 (some .int), Cond.methodLink RX1 107 yX1_reason, Cond.instanceMethod yX1_reason, Cond.selects RX1 yX1_reason yX1_reason, Cond.code yX1_reason cX1_reason 3 (some .int), Cond.methodLink RL 142 yL_use, Cond.static yL_use, Cond.codeWith yL_use cL_use 5 (some .int) [(0, 10, 13, 21), (0, 10, 17, 15)], Cond.methodLink RL 58 yX0_use, Cond.instanceMethod yX0_use]
def wsL_law0_r16 : List Cond := [Cond.selects RX0 yX0_use yX0_use, Cond.code yX0_use cX0_use 4 (some .int), Cond.methodLink RX0 136 yX0_whyNoUse, Cond.methodLink RX0 141 yX0_useIndex, Cond.static yX0_useIndex, Cond.code yX0_useIndex cX0_useIndex 2 (some .int), Cond.methodLink RL 144 yX1_use, Cond.instanceMethod yX1_use, Cond.selects RX1 yX1_use yX1_use, Cond.code yX1_use cX1_use 3 (some .int), Cond.methodLink RL 145 yL_uses, Cond.static yL_uses, Cond.codeWith yL_uses cL_uses 5 (some .int) [(0, 10, 13, 21)], Cond.methodLink RL 61 yX0_uses, Cond.instanceMethod yX0_uses, Cond.selects RX0 yX0_uses yX0_uses, Cond.code yX0_uses cX0_uses 5 (some .int), Cond.methodLink RL 147 yX1_uses, Cond.instanceMethod yX1_uses, Cond.selects RX1 yX1_uses yX1_uses, Cond.code yX1_uses cX1_uses 5 (some .int), Cond.methodLink RL 148 yL_passDays, Cond.static yL_passDays, Cond.codeWith yL_passDays cL_passDays 4 (some .int) [(0, 9, 12, 13)]]
def wsL_law0_r17 : List Cond := [Cond.methodLink RL 64 yX0_passDays, Cond.instanceMethod yX0_passDays, Cond.selects RX0 yX0_passDays yX0_passDays, Cond.code yX0_passDays cX0_passDays 2 (some .int), Cond.methodLink RX0 146 yX0_countDaysWithConsent, Cond.instanceMethod yX0_countDaysWithConsent, Cond.selects RX0 yX0_countDaysWithConsent yX0_countDaysWithConsent, Cond.code yX0_countDaysWithConsent cX0_countDaysWithConsent 4 none, Cond.methodLink RX0 152 yX0_dueRecords, Cond.instanceMethod yX0_dueRecords, Cond.selects RX0 yX0_dueRecords yX0_dueRecords, Cond.code yX0_dueRecords cX0_dueRecords 3 (some .int), Cond.methodLink RX0 156 yX0_requestWithAllBelow, Cond.instanceMethod yX0_requestWithAllBelow, Cond.selects RX0 yX0_requestWithAllBelow yX0_requestWithAllBelow, Cond.code yX0_requestWithAllBelow cX0_requestWithAllBelow 3 (some .int), Cond.methodLink RL 150 yX1_passDays, Cond.instanceMethod yX1_passDays, Cond.selects RX1 yX1_passDays yX1_passDays, Cond.code yX1_passDays cX1_passDays 5 (some .int), Cond.methodLink RX1 111 yX1_dueSet, Cond.instanceMethod yX1_dueSet, Cond.selects RX1 yX1_dueSet yX1_dueSet, Cond.code yX1_dueSet cX1_dueSet 3 (some .int)]
def wsL_law0_r18 : List Cond := [Cond.methodLink RX1 115 yX1_asks, Cond.instanceMethod yX1_asks, Cond.selects RX1 yX1_asks yX1_asks, Cond.code yX1_asks cX1_asks 5 (some .int), Cond.methodLink RL 151 yX0_day, Cond.instanceMethod yX0_day, Cond.selects RX0 yX0_day yX0_day, Cond.code yX0_day cX0_day 1 (some .int), Cond.methodLink RL 154 yX1_day, Cond.instanceMethod yX1_day, Cond.selects RX1 yX1_day yX1_day, Cond.code yX1_day cX1_day 1 (some .int), Cond.methodLink RL 155 yX0_nextEnd, Cond.instanceMethod yX0_nextEnd, Cond.selects RX0 yX0_nextEnd yX0_nextEnd, Cond.code yX0_nextEnd cX0_nextEnd 4 (some .int), Cond.methodLink RX0 159 Lib.Math.min.name, Cond.static Lib.Math.min.name, Cond.code Lib.Math.min.name Lib.Math.min.code 2 (some .int), Cond.methodLink RL 158 yX1_nextEnd, Cond.instanceMethod yX1_nextEnd, Cond.selects RX1 yX1_nextEnd yX1_nextEnd, Cond.code yX1_nextEnd cX1_nextEnd 3 (some .int), Cond.methodLink RL 159 yL_hold]
def wsL_law0_r19 : List Cond := [Cond.static yL_hold, Cond.codeWith yL_hold cL_hold 5 (some .int) [(0, 10, 13, 21), (0, 10, 17, 15)], Cond.methodLink RL 67 yX0_hold, Cond.instanceMethod yX0_hold, Cond.selects RX0 yX0_hold yX0_hold, Cond.code yX0_hold cX0_hold 3 (some .int), Cond.methodLink RX0 164 yX0_checkCase, Cond.instanceMethod yX0_checkCase, Cond.selects RX0 yX0_checkCase yX0_checkCase, Cond.code yX0_checkCase cX0_checkCase 2 none, Cond.methodLink RL 161 yX1_hold, Cond.instanceMethod yX1_hold, Cond.selects RX1 yX1_hold yX1_hold, Cond.code yX1_hold cX1_hold 3 (some .int), Cond.methodLink RL 162 yL_close, Cond.static yL_close, Cond.codeWith yL_close cL_close 4 (some .int) [(0, 9, 12, 21)], Cond.methodLink RL 70 yX0_close, Cond.instanceMethod yX0_close, Cond.selects RX0 yX0_close yX0_close, Cond.code yX0_close cX0_close 3 (some .int), Cond.methodLink RX0 171 yX0_heldRecords, Cond.instanceMethod yX0_heldRecords, Cond.selects RX0 yX0_heldRecords yX0_heldRecords]
end
section
def wsL_law0_r20 : List Cond := [Cond.code yX0_heldRecords cX0_heldRecords 3 (some .int), Cond.methodLink RL 164 yX1_close, Cond.instanceMethod yX1_close, Cond.selects RX1 yX1_close yX1_close, Cond.code yX1_close cX1_close 3 (some .int), Cond.methodLink RX1 118 yX1_heldSet, Cond.instanceMethod yX1_heldSet, Cond.selects RX1 yX1_heldSet yX1_heldSet, Cond.code yX1_heldSet cX1_heldSet 3 (some .int), Cond.methodLink RL 165 yX0_held, Cond.instanceMethod yX0_held, Cond.selects RX0 yX0_held yX0_held, Cond.code yX0_held cX0_held 1 (some .int), Cond.methodLink RL 168 yX1_held, Cond.instanceMethod yX1_held, Cond.selects RX1 yX1_held yX1_held, Cond.code yX1_held cX1_held 1 (some .int), Cond.methodLink RL 169 yL_request, Cond.static yL_request, Cond.codeWith yL_request cL_request 4 (some .int) [(0, 9, 12, 21)], Cond.methodLink RL 73 yX0_request, Cond.instanceMethod yX0_request, Cond.selects RX0 yX0_request yX0_request, Cond.code yX0_request cX0_request 2 (some .int)]
def wsL_law0_r21 : List Cond := [Cond.methodLink RX0 174 yX0_recordsOf, Cond.instanceMethod yX0_recordsOf, Cond.selects RX0 yX0_recordsOf yX0_recordsOf, Cond.code yX0_recordsOf cX0_recordsOf 4 (some .int), Cond.methodLink RL 171 yX1_request, Cond.instanceMethod yX1_request, Cond.selects RX1 yX1_request yX1_request, Cond.code yX1_request cX1_request 4 (some .int), Cond.methodLink RL 172 yL_whyKept, Cond.static yL_whyKept, Cond.codeWith yL_whyKept cL_whyKept 4 (some .int) [(0, 9, 12, 21)], Cond.methodLink RL 76 yX0_whyKept, Cond.instanceMethod yX0_whyKept, Cond.selects RX0 yX0_whyKept yX0_whyKept, Cond.code yX0_whyKept cX0_whyKept 2 (some .int), Cond.methodLink RL 174 yX1_whyKept, Cond.instanceMethod yX1_whyKept, Cond.selects RX1 yX1_whyKept yX1_whyKept, Cond.code yX1_whyKept cX1_whyKept 2 (some .int), Cond.methodLink RX1 121 yX1_kept, Cond.instanceMethod yX1_kept, Cond.selects RX1 yX1_kept yX1_kept, Cond.code yX1_kept cX1_kept 5 (some .int), Cond.methodLink RL 175 yX0_erase]
def wsL_law0_r22 : List Cond := [Cond.instanceMethod yX0_erase, Cond.selects RX0 yX0_erase yX0_erase, Cond.code yX0_erase cX0_erase 2 (some .int), Cond.methodLink RX0 177 yX0_whyKept, Cond.methodLink RX0 180 yX0_moveToErased, Cond.instanceMethod yX0_moveToErased, Cond.selects RX0 yX0_moveToErased yX0_moveToErased, Cond.code yX0_moveToErased cX0_moveToErased 2 none, Cond.methodLink RL 178 yX1_erase, Cond.instanceMethod yX1_erase, Cond.selects RX1 yX1_erase yX1_erase, Cond.code yX1_erase cX1_erase 1 (some .int), Cond.methodLink RX1 124 yX1_eraseOne, Cond.instanceMethod yX1_eraseOne, Cond.selects RX1 yX1_eraseOne yX1_eraseOne, Cond.code yX1_eraseOne cX1_eraseOne 3 (some .int), Cond.methodLink RL 179 yX0_eraseAll, Cond.instanceMethod yX0_eraseAll, Cond.selects RX0 yX0_eraseAll yX0_eraseAll, Cond.code yX0_eraseAll cX0_eraseAll 3 (some .int), Cond.methodLink RL 182 yX1_eraseAll, Cond.instanceMethod yX1_eraseAll, Cond.selects RX1 yX1_eraseAll yX1_eraseAll, Cond.code yX1_eraseAll cX1_eraseAll 2 (some .int)]
def wsL_law0_r23 : List Cond := [Cond.methodLink RL 183 yL_traces, Cond.static yL_traces, Cond.codeWith yL_traces cL_traces 4 (some .int) [(0, 9, 12, 21)], Cond.methodLink RL 79 yX0_traces, Cond.instanceMethod yX0_traces, Cond.selects RX0 yX0_traces yX0_traces, Cond.code yX0_traces cX0_traces 2 (some .int), Cond.methodLink RL 185 yX1_traces, Cond.instanceMethod yX1_traces, Cond.selects RX1 yX1_traces yX1_traces, Cond.code yX1_traces cX1_traces 2 (some .int), Cond.methodLink RX1 127 yX1_tracesOf, Cond.instanceMethod yX1_tracesOf, Cond.selects RX1 yX1_tracesOf yX1_tracesOf, Cond.code yX1_tracesOf cX1_tracesOf 4 (some .int), Cond.methodLink RL 186 yL_tracesFromRoots, Cond.static yL_tracesFromRoots, Cond.codeWith yL_tracesFromRoots cL_tracesFromRoots 4 (some .int) [(0, 9, 12, 21)], Cond.methodLink RL 82 yX0_tracesFromRoots, Cond.instanceMethod yX0_tracesFromRoots, Cond.selects RX0 yX0_tracesFromRoots yX0_tracesFromRoots, Cond.code yX0_tracesFromRoots cX0_tracesFromRoots 2 (some .int), Cond.methodLink RX0 183 yX0_rootsOf, Cond.instanceMethod yX0_rootsOf]
def wsL_law0_r24 : List Cond := [Cond.selects RX0 yX0_rootsOf yX0_rootsOf, Cond.code yX0_rootsOf cX0_rootsOf 4 (some .int), Cond.methodLink RL 188 yX1_tracesFromRoots, Cond.instanceMethod yX1_tracesFromRoots, Cond.selects RX1 yX1_tracesFromRoots yX1_tracesFromRoots, Cond.code yX1_tracesFromRoots cX1_tracesFromRoots 2 (some .int), Cond.methodLink RL 189 yX0_due, Cond.instanceMethod yX0_due, Cond.selects RX0 yX0_due yX0_due, Cond.code yX0_due cX0_due 1 (some .int), Cond.methodLink RL 192 yX1_due, Cond.instanceMethod yX1_due, Cond.selects RX1 yX1_due yX1_due, Cond.code yX1_due cX1_due 1 (some .int)]
def wsL_law0 : List Cond := (wsL_law0_r1 ++ (wsL_law0_r2 ++ (wsL_law0_r3 ++ (wsL_law0_r4 ++ (wsL_law0_r5 ++ (wsL_law0_r6 ++ (wsL_law0_r7 ++ (wsL_law0_r8 ++ (wsL_law0_r9 ++ (wsL_law0_r10 ++ (wsL_law0_r11 ++ (wsL_law0_r12 ++ (wsL_law0_r13 ++ (wsL_law0_r14 ++ (wsL_law0_r15 ++ (wsL_law0_r16 ++ (wsL_law0_r17 ++ (wsL_law0_r18 ++ (wsL_law0_r19 ++ (wsL_law0_r20 ++ (wsL_law0_r21 ++ (wsL_law0_r22 ++ (wsL_law0_r23 ++ wsL_law0_r24))))))))))))))))))))))) ++ wsX00 ++ wsX10 ++ ([] : List Cond)
def wsL_law : List Cond := wsL_law0 ++ (vx_atS RX0 49 "java/lang/IllegalStateException" ["java/lang/RuntimeException", "java/lang/Exception"]).filter goodWord ++ (vx_atS RX0 92 "java/lang/IllegalArgumentException" ["java/lang/RuntimeException", "java/lang/Exception"]).filter goodWord ++ (vx_atS RX0 190 "java/lang/IndexOutOfBoundsException" ["java/lang/RuntimeException", "java/lang/Exception"]).filter goodWord
end
section
theorem dX0_init_0 : decode cX0_init 0 = .ok (.aload_n 0, 1) := by decide +kernel
theorem dX0_init_1 : decode cX0_init 1 = .ok (.invokespecial 1, 3) := by decide +kernel
theorem dX0_init_4 : decode cX0_init 4 = .ok (.aload_n 0, 1) := by decide +kernel
theorem dX0_init_5 : decode cX0_init 5 = .ok (.bipush 8, 2) := by decide +kernel
theorem dX0_init_7 : decode cX0_init 7 = .ok (.newarray .int, 2) := by decide +kernel
theorem dX0_init_9 : decode cX0_init 9 = .ok (.putfield 9, 3) := by decide +kernel
theorem dX0_init_12 : decode cX0_init 12 = .ok (.aload_n 0, 1) := by decide +kernel
theorem dX0_init_13 : decode cX0_init 13 = .ok (.bipush 12, 2) := by decide +kernel
theorem dX0_init_15 : decode cX0_init 15 = .ok (.newarray .int, 2) := by decide +kernel
theorem dX0_init_17 : decode cX0_init 17 = .ok (.putfield 13, 3) := by decide +kernel
theorem dX0_init_20 : decode cX0_init 20 = .ok (.aload_n 0, 1) := by decide +kernel
theorem dX0_init_21 : decode cX0_init 21 = .ok (.bipush 96, 2) := by decide +kernel
theorem dX0_init_23 : decode cX0_init 23 = .ok (.newarray .int, 2) := by decide +kernel
theorem dX0_init_25 : decode cX0_init 25 = .ok (.putfield 16, 3) := by decide +kernel
theorem dX0_init_28 : decode cX0_init 28 = .ok (.aload_n 0, 1) := by decide +kernel
theorem dX0_init_29 : decode cX0_init 29 = .ok (.bipush 30, 2) := by decide +kernel
theorem dX0_init_31 : decode cX0_init 31 = .ok (.newarray .int, 2) := by decide +kernel
theorem dX0_init_33 : decode cX0_init 33 = .ok (.putfield 19, 3) := by decide +kernel
theorem dX0_init_36 : decode cX0_init 36 = .ok (.aload_n 0, 1) := by decide +kernel
theorem dX0_init_37 : decode cX0_init 37 = .ok (.bipush 30, 2) := by decide +kernel
theorem dX0_init_39 : decode cX0_init 39 = .ok (.newarray .int, 2) := by decide +kernel
theorem dX0_init_41 : decode cX0_init 41 = .ok (.putfield 22, 3) := by decide +kernel
theorem dX0_init_44 : decode cX0_init 44 = .ok (.aload_n 0, 1) := by decide +kernel
theorem dX0_init_45 : decode cX0_init 45 = .ok (.bipush 30, 2) := by decide +kernel
theorem dX0_init_47 : decode cX0_init 47 = .ok (.newarray .int, 2) := by decide +kernel
theorem dX0_init_49 : decode cX0_init 49 = .ok (.putfield 25, 3) := by decide +kernel
theorem dX0_init_52 : decode cX0_init 52 = .ok (.aload_n 0, 1) := by decide +kernel
theorem dX0_init_53 : decode cX0_init 53 = .ok (.bipush 30, 2) := by decide +kernel
theorem dX0_init_55 : decode cX0_init 55 = .ok (.newarray .int, 2) := by decide +kernel
theorem dX0_init_57 : decode cX0_init 57 = .ok (.putfield 28, 3) := by decide +kernel
theorem dX0_init_60 : decode cX0_init 60 = .ok (.aload_n 0, 1) := by decide +kernel
theorem dX0_init_61 : decode cX0_init 61 = .ok (.sipush 240, 3) := by decide +kernel
theorem dX0_init_64 : decode cX0_init 64 = .ok (.newarray .int, 2) := by decide +kernel
theorem dX0_init_66 : decode cX0_init 66 = .ok (.putfield 31, 3) := by decide +kernel
theorem dX0_init_69 : decode cX0_init 69 = .ok (.aload_n 0, 1) := by decide +kernel
theorem dX0_init_70 : decode cX0_init 70 = .ok (.bipush 6, 2) := by decide +kernel
theorem dX0_init_72 : decode cX0_init 72 = .ok (.newarray .int, 2) := by decide +kernel
theorem dX0_init_74 : decode cX0_init 74 = .ok (.putfield 34, 3) := by decide +kernel
theorem dX0_init_77 : decode cX0_init 77 = .ok (.return_, 1) := by decide +kernel
set_option maxRecDepth 20000 in
theorem ggX0_addPurpose_X0_checkRetention : GoodIn wsX0_addPurpose wsX0_checkRetention := goodIn_ca (goodIn_r _ [10, 11, 12] (by decide +kernel) (by decide +kernel)) (goodIn_sub (fun _ h => List.mem_cons_of_mem _ (List.mem_append_right _ h)) (by decide +kernel))
set_option maxRecDepth 20000 in
theorem gX0_addPurpose_X0_checkRetention : GoodIn wsX0_addPurpose (wsV RX0 37 RX0 yX0_checkRetention wsX0_checkRetention) := goodIn_app (goodIn_of _ (by decide +kernel)) ggX0_addPurpose_X0_checkRetention
set_option maxRecDepth 20000 in
theorem ggX0_addPurpose_X0_bit : GoodIn wsX0_addPurpose wsX0_bit := goodIn_r _ [15] (by decide +kernel) (by decide +kernel)
set_option maxRecDepth 20000 in
theorem gX0_addPurpose_X0_bit : GoodIn wsX0_addPurpose (va_wsS RX0 55 yX0_bit wsX0_bit) := goodIn_app (goodIn_of _ (by decide +kernel)) ggX0_addPurpose_X0_bit
theorem dX0_addPurpose_0 : decode cX0_addPurpose 0 = .ok (.aload_n 0, 1) := by decide +kernel
theorem dX0_addPurpose_1 : decode cX0_addPurpose 1 = .ok (.iload_n 1, 1) := by decide +kernel
theorem dX0_addPurpose_2 : decode cX0_addPurpose 2 = .ok (.invokevirtual 37, 3) := by decide +kernel
theorem dX0_addPurpose_5 : decode cX0_addPurpose 5 = .ok (.aload_n 0, 1) := by decide +kernel
theorem dX0_addPurpose_6 : decode cX0_addPurpose 6 = .ok (.getfield 41, 3) := by decide +kernel
theorem dX0_addPurpose_9 : decode cX0_addPurpose 9 = .ok (.bipush 8, 2) := by decide +kernel
theorem dX0_addPurpose_11 : decode cX0_addPurpose 11 = .ok (.if_icmp .lt 13, 3) := by decide +kernel
theorem dX0_addPurpose_14 : decode cX0_addPurpose 14 = .ok (.new 45, 3) := by decide +kernel
theorem dX0_addPurpose_17 : decode cX0_addPurpose 17 = .ok (.dup, 1) := by decide +kernel
theorem dX0_addPurpose_18 : decode cX0_addPurpose 18 = .ok (.ldc 47, 2) := by decide +kernel
theorem dX0_addPurpose_20 : decode cX0_addPurpose 20 = .ok (.invokespecial 49, 3) := by decide +kernel
theorem dX0_addPurpose_23 : decode cX0_addPurpose 23 = .ok (.athrow, 1) := by decide +kernel
theorem dX0_addPurpose_24 : decode cX0_addPurpose 24 = .ok (.aload_n 0, 1) := by decide +kernel
theorem dX0_addPurpose_25 : decode cX0_addPurpose 25 = .ok (.getfield 41, 3) := by decide +kernel
theorem dX0_addPurpose_28 : decode cX0_addPurpose 28 = .ok (.istore_n 3, 1) := by decide +kernel
theorem dX0_addPurpose_29 : decode cX0_addPurpose 29 = .ok (.aload_n 0, 1) := by decide +kernel
theorem dX0_addPurpose_30 : decode cX0_addPurpose 30 = .ok (.getfield 9, 3) := by decide +kernel
theorem dX0_addPurpose_33 : decode cX0_addPurpose 33 = .ok (.iload_n 3, 1) := by decide +kernel
theorem dX0_addPurpose_34 : decode cX0_addPurpose 34 = .ok (.iload_n 1, 1) := by decide +kernel
theorem dX0_addPurpose_35 : decode cX0_addPurpose 35 = .ok (.iastore, 1) := by decide +kernel
theorem dX0_addPurpose_36 : decode cX0_addPurpose 36 = .ok (.iload_n 2, 1) := by decide +kernel
theorem dX0_addPurpose_37 : decode cX0_addPurpose 37 = .ok (.ifCond .ne 16, 3) := by decide +kernel
theorem dX0_addPurpose_40 : decode cX0_addPurpose 40 = .ok (.aload_n 0, 1) := by decide +kernel
theorem dX0_addPurpose_41 : decode cX0_addPurpose 41 = .ok (.dup, 1) := by decide +kernel
theorem dX0_addPurpose_42 : decode cX0_addPurpose 42 = .ok (.getfield 52, 3) := by decide +kernel
theorem dX0_addPurpose_45 : decode cX0_addPurpose 45 = .ok (.iload_n 3, 1) := by decide +kernel
theorem dX0_addPurpose_46 : decode cX0_addPurpose 46 = .ok (.invokestatic 55, 3) := by decide +kernel
theorem dX0_addPurpose_49 : decode cX0_addPurpose 49 = .ok (.ior, 1) := by decide +kernel
theorem dX0_addPurpose_50 : decode cX0_addPurpose 50 = .ok (.putfield 52, 3) := by decide +kernel
theorem dX0_addPurpose_53 : decode cX0_addPurpose 53 = .ok (.aload_n 0, 1) := by decide +kernel
theorem dX0_addPurpose_54 : decode cX0_addPurpose 54 = .ok (.dup, 1) := by decide +kernel
theorem dX0_addPurpose_55 : decode cX0_addPurpose 55 = .ok (.getfield 41, 3) := by decide +kernel
theorem dX0_addPurpose_58 : decode cX0_addPurpose 58 = .ok (.iconst 1, 1) := by decide +kernel
theorem dX0_addPurpose_59 : decode cX0_addPurpose 59 = .ok (.iadd, 1) := by decide +kernel
theorem dX0_addPurpose_60 : decode cX0_addPurpose 60 = .ok (.putfield 41, 3) := by decide +kernel
theorem dX0_addPurpose_63 : decode cX0_addPurpose 63 = .ok (.iload_n 3, 1) := by decide +kernel
theorem dX0_addPurpose_64 : decode cX0_addPurpose 64 = .ok (.ireturn, 1) := by decide +kernel
set_option maxRecDepth 20000 in
theorem ggX0_setRetention_X0_checkPurpose : GoodIn wsX0_setRetention wsX0_checkPurpose := goodIn_ca (goodIn_r _ [6, 7, 8, 9, 16, 17, 18, 19, 20, 21, 22, 23, 24, 25, 26, 27, 28, 29, 30, 31] (by decide +kernel) (by decide +kernel)) (goodIn_sub (fun _ h => List.mem_cons_of_mem _ (List.mem_append_left _ (List.mem_append_right _ h))) (by decide +kernel))
set_option maxRecDepth 20000 in
theorem gX0_setRetention_X0_checkPurpose : GoodIn wsX0_setRetention (wsV RX0 59 RX0 yX0_checkPurpose wsX0_checkPurpose) := goodIn_app (goodIn_of _ (by decide +kernel)) ggX0_setRetention_X0_checkPurpose
set_option maxRecDepth 20000 in
theorem ggX0_setRetention_X0_checkRetention : GoodIn wsX0_setRetention wsX0_checkRetention := goodIn_ca (goodIn_r _ [13, 14, 15] (by decide +kernel) (by decide +kernel)) (goodIn_sub (fun _ h => List.mem_cons_of_mem _ (List.mem_append_right _ h)) (by decide +kernel))
set_option maxRecDepth 20000 in
theorem gX0_setRetention_X0_checkRetention : GoodIn wsX0_setRetention (wsV RX0 37 RX0 yX0_checkRetention wsX0_checkRetention) := goodIn_app (goodIn_of _ (by decide +kernel)) ggX0_setRetention_X0_checkRetention
theorem dX0_setRetention_0 : decode cX0_setRetention 0 = .ok (.aload_n 0, 1) := by decide +kernel
theorem dX0_setRetention_1 : decode cX0_setRetention 1 = .ok (.iload_n 1, 1) := by decide +kernel
theorem dX0_setRetention_2 : decode cX0_setRetention 2 = .ok (.invokevirtual 59, 3) := by decide +kernel
theorem dX0_setRetention_5 : decode cX0_setRetention 5 = .ok (.aload_n 0, 1) := by decide +kernel
theorem dX0_setRetention_6 : decode cX0_setRetention 6 = .ok (.iload_n 2, 1) := by decide +kernel
theorem dX0_setRetention_7 : decode cX0_setRetention 7 = .ok (.invokevirtual 37, 3) := by decide +kernel
theorem dX0_setRetention_10 : decode cX0_setRetention 10 = .ok (.aload_n 0, 1) := by decide +kernel
theorem dX0_setRetention_11 : decode cX0_setRetention 11 = .ok (.getfield 9, 3) := by decide +kernel
theorem dX0_setRetention_14 : decode cX0_setRetention 14 = .ok (.iload_n 1, 1) := by decide +kernel
theorem dX0_setRetention_15 : decode cX0_setRetention 15 = .ok (.iaload, 1) := by decide +kernel
theorem dX0_setRetention_16 : decode cX0_setRetention 16 = .ok (.istore_n 3, 1) := by decide +kernel
theorem dX0_setRetention_17 : decode cX0_setRetention 17 = .ok (.aload_n 0, 1) := by decide +kernel
theorem dX0_setRetention_18 : decode cX0_setRetention 18 = .ok (.getfield 9, 3) := by decide +kernel
theorem dX0_setRetention_21 : decode cX0_setRetention 21 = .ok (.iload_n 1, 1) := by decide +kernel
theorem dX0_setRetention_22 : decode cX0_setRetention 22 = .ok (.iload_n 2, 1) := by decide +kernel
theorem dX0_setRetention_23 : decode cX0_setRetention 23 = .ok (.iastore, 1) := by decide +kernel
theorem dX0_setRetention_24 : decode cX0_setRetention 24 = .ok (.iload_n 3, 1) := by decide +kernel
theorem dX0_setRetention_25 : decode cX0_setRetention 25 = .ok (.ireturn, 1) := by decide +kernel
set_option maxRecDepth 20000 in
theorem ggX0_consent_X0_checkSubject : GoodIn wsX0_consent wsX0_checkSubject := goodIn_ca (goodIn_r _ [6, 7, 8] (by decide +kernel) (by decide +kernel)) (goodIn_sub (fun _ h => List.mem_cons_of_mem _ (List.mem_append_right _ h)) (by decide +kernel))
set_option maxRecDepth 20000 in
theorem gX0_consent_X0_checkSubject : GoodIn wsX0_consent (wsV RX0 62 RX0 yX0_checkSubject wsX0_checkSubject) := goodIn_app (goodIn_of _ (by decide +kernel)) ggX0_consent_X0_checkSubject
set_option maxRecDepth 20000 in
theorem ggX0_consent_X0_checkPurpose : GoodIn wsX0_consent wsX0_checkPurpose := goodIn_ca (goodIn_r _ [12, 7, 8, 13, 20, 21, 22, 23, 24, 25, 26, 27, 28, 29, 30, 31, 32, 33, 34, 35] (by decide +kernel) (by decide +kernel)) (goodIn_sub (fun _ h => List.mem_cons_of_mem _ (List.mem_append_right _ h)) (by decide +kernel))
set_option maxRecDepth 20000 in
theorem gX0_consent_X0_checkPurpose : GoodIn wsX0_consent (wsV RX0 59 RX0 yX0_checkPurpose wsX0_checkPurpose) := goodIn_app (goodIn_of _ (by decide +kernel)) ggX0_consent_X0_checkPurpose
set_option maxRecDepth 20000 in
theorem ggX0_consent_X0_has : GoodIn wsX0_consent wsX0_has := goodIn_r _ [16, 17, 18, 5, 19] (by decide +kernel) (by decide +kernel)
set_option maxRecDepth 20000 in
theorem gX0_consent_X0_has : GoodIn wsX0_consent (va_wsS RX0 65 yX0_has wsX0_has) := goodIn_app (goodIn_of _ (by decide +kernel)) ggX0_consent_X0_has
set_option maxRecDepth 20000 in
theorem ggX0_consent_X0_bit : GoodIn wsX0_consent wsX0_bit := goodIn_r _ [19] (by decide +kernel) (by decide +kernel)
set_option maxRecDepth 20000 in
theorem gX0_consent_X0_bit : GoodIn wsX0_consent (va_wsS RX0 55 yX0_bit wsX0_bit) := goodIn_app (goodIn_of _ (by decide +kernel)) ggX0_consent_X0_bit
theorem dX0_consent_0 : decode cX0_consent 0 = .ok (.aload_n 0, 1) := by decide +kernel
theorem dX0_consent_1 : decode cX0_consent 1 = .ok (.iload_n 1, 1) := by decide +kernel
theorem dX0_consent_2 : decode cX0_consent 2 = .ok (.invokevirtual 62, 3) := by decide +kernel
theorem dX0_consent_5 : decode cX0_consent 5 = .ok (.aload_n 0, 1) := by decide +kernel
theorem dX0_consent_6 : decode cX0_consent 6 = .ok (.iload_n 2, 1) := by decide +kernel
theorem dX0_consent_7 : decode cX0_consent 7 = .ok (.invokevirtual 59, 3) := by decide +kernel
theorem dX0_consent_10 : decode cX0_consent 10 = .ok (.aload_n 0, 1) := by decide +kernel
theorem dX0_consent_11 : decode cX0_consent 11 = .ok (.getfield 13, 3) := by decide +kernel
theorem dX0_consent_14 : decode cX0_consent 14 = .ok (.iload_n 1, 1) := by decide +kernel
theorem dX0_consent_15 : decode cX0_consent 15 = .ok (.iaload, 1) := by decide +kernel
theorem dX0_consent_16 : decode cX0_consent 16 = .ok (.iload_n 2, 1) := by decide +kernel
theorem dX0_consent_17 : decode cX0_consent 17 = .ok (.invokestatic 65, 3) := by decide +kernel
theorem dX0_consent_20 : decode cX0_consent 20 = .ok (.iload_n 3, 1) := by decide +kernel
theorem dX0_consent_21 : decode cX0_consent 21 = .ok (.if_icmp .ne 5, 3) := by decide +kernel
theorem dX0_consent_24 : decode cX0_consent 24 = .ok (.iconst 0, 1) := by decide +kernel
theorem dX0_consent_25 : decode cX0_consent 25 = .ok (.ireturn, 1) := by decide +kernel
theorem dX0_consent_26 : decode cX0_consent 26 = .ok (.aload_n 0, 1) := by decide +kernel
theorem dX0_consent_27 : decode cX0_consent 27 = .ok (.getfield 13, 3) := by decide +kernel
theorem dX0_consent_30 : decode cX0_consent 30 = .ok (.iload_n 1, 1) := by decide +kernel
theorem dX0_consent_31 : decode cX0_consent 31 = .ok (.dup2, 1) := by decide +kernel
theorem dX0_consent_32 : decode cX0_consent 32 = .ok (.iaload, 1) := by decide +kernel
theorem dX0_consent_33 : decode cX0_consent 33 = .ok (.iload_n 2, 1) := by decide +kernel
theorem dX0_consent_34 : decode cX0_consent 34 = .ok (.invokestatic 55, 3) := by decide +kernel
theorem dX0_consent_37 : decode cX0_consent 37 = .ok (.ixor, 1) := by decide +kernel
theorem dX0_consent_38 : decode cX0_consent 38 = .ok (.iastore, 1) := by decide +kernel
theorem dX0_consent_39 : decode cX0_consent 39 = .ok (.iconst 1, 1) := by decide +kernel
theorem dX0_consent_40 : decode cX0_consent 40 = .ok (.ireturn, 1) := by decide +kernel
set_option maxRecDepth 20000 in
theorem ggX0_consents_X0_checkSubject : GoodIn wsX0_consents wsX0_checkSubject := goodIn_ca (goodIn_r _ [6, 7, 8] (by decide +kernel) (by decide +kernel)) (goodIn_sub (fun _ h => List.mem_cons_of_mem _ (List.mem_append_right _ h)) (by decide +kernel))
set_option maxRecDepth 20000 in
theorem gX0_consents_X0_checkSubject : GoodIn wsX0_consents (wsV RX0 62 RX0 yX0_checkSubject wsX0_checkSubject) := goodIn_app (goodIn_of _ (by decide +kernel)) ggX0_consents_X0_checkSubject
theorem dX0_consents_0 : decode cX0_consents 0 = .ok (.aload_n 0, 1) := by decide +kernel
theorem dX0_consents_1 : decode cX0_consents 1 = .ok (.iload_n 1, 1) := by decide +kernel
theorem dX0_consents_2 : decode cX0_consents 2 = .ok (.invokevirtual 62, 3) := by decide +kernel
theorem dX0_consents_5 : decode cX0_consents 5 = .ok (.aload_n 0, 1) := by decide +kernel
theorem dX0_consents_6 : decode cX0_consents 6 = .ok (.getfield 13, 3) := by decide +kernel
theorem dX0_consents_9 : decode cX0_consents 9 = .ok (.iload_n 1, 1) := by decide +kernel
theorem dX0_consents_10 : decode cX0_consents 10 = .ok (.iaload, 1) := by decide +kernel
theorem dX0_consents_11 : decode cX0_consents 11 = .ok (.ireturn, 1) := by decide +kernel
set_option maxRecDepth 20000 in
theorem ggX0_daysWithConsent_X0_checkSubject : GoodIn wsX0_daysWithConsent wsX0_checkSubject := goodIn_ca (goodIn_r _ [6, 7, 8] (by decide +kernel) (by decide +kernel)) (goodIn_sub (fun _ h => List.mem_cons_of_mem _ (List.mem_append_right _ h)) (by decide +kernel))
set_option maxRecDepth 20000 in
theorem gX0_daysWithConsent_X0_checkSubject : GoodIn wsX0_daysWithConsent (wsV RX0 62 RX0 yX0_checkSubject wsX0_checkSubject) := goodIn_app (goodIn_of _ (by decide +kernel)) ggX0_daysWithConsent_X0_checkSubject
set_option maxRecDepth 20000 in
theorem ggX0_daysWithConsent_X0_checkPurpose : GoodIn wsX0_daysWithConsent wsX0_checkPurpose := goodIn_ca (goodIn_r _ [12, 7, 8, 13, 17, 18, 19, 20, 21, 22, 23, 24, 25, 26, 27, 28, 29, 30, 31, 32] (by decide +kernel) (by decide +kernel)) (goodIn_sub (fun _ h => List.mem_cons_of_mem _ (List.mem_append_right _ h)) (by decide +kernel))
set_option maxRecDepth 20000 in
theorem gX0_daysWithConsent_X0_checkPurpose : GoodIn wsX0_daysWithConsent (wsV RX0 59 RX0 yX0_checkPurpose wsX0_checkPurpose) := goodIn_app (goodIn_of _ (by decide +kernel)) ggX0_daysWithConsent_X0_checkPurpose
set_option maxRecDepth 20000 in
theorem ggX0_daysWithConsent_X0_consentIndex : GoodIn wsX0_daysWithConsent wsX0_consentIndex := goodIn_r _ [16] (by decide +kernel) (by decide +kernel)
set_option maxRecDepth 20000 in
theorem gX0_daysWithConsent_X0_consentIndex : GoodIn wsX0_daysWithConsent (va_wsS RX0 69 yX0_consentIndex wsX0_consentIndex) := goodIn_app (goodIn_of _ (by decide +kernel)) ggX0_daysWithConsent_X0_consentIndex
theorem dX0_daysWithConsent_0 : decode cX0_daysWithConsent 0 = .ok (.aload_n 0, 1) := by decide +kernel
theorem dX0_daysWithConsent_1 : decode cX0_daysWithConsent 1 = .ok (.iload_n 1, 1) := by decide +kernel
theorem dX0_daysWithConsent_2 : decode cX0_daysWithConsent 2 = .ok (.invokevirtual 62, 3) := by decide +kernel
theorem dX0_daysWithConsent_5 : decode cX0_daysWithConsent 5 = .ok (.aload_n 0, 1) := by decide +kernel
theorem dX0_daysWithConsent_6 : decode cX0_daysWithConsent 6 = .ok (.iload_n 2, 1) := by decide +kernel
theorem dX0_daysWithConsent_7 : decode cX0_daysWithConsent 7 = .ok (.invokevirtual 59, 3) := by decide +kernel
theorem dX0_daysWithConsent_10 : decode cX0_daysWithConsent 10 = .ok (.aload_n 0, 1) := by decide +kernel
theorem dX0_daysWithConsent_11 : decode cX0_daysWithConsent 11 = .ok (.getfield 16, 3) := by decide +kernel
theorem dX0_daysWithConsent_14 : decode cX0_daysWithConsent 14 = .ok (.iload_n 1, 1) := by decide +kernel
theorem dX0_daysWithConsent_15 : decode cX0_daysWithConsent 15 = .ok (.iload_n 2, 1) := by decide +kernel
theorem dX0_daysWithConsent_16 : decode cX0_daysWithConsent 16 = .ok (.invokestatic 69, 3) := by decide +kernel
theorem dX0_daysWithConsent_19 : decode cX0_daysWithConsent 19 = .ok (.iaload, 1) := by decide +kernel
theorem dX0_daysWithConsent_20 : decode cX0_daysWithConsent 20 = .ok (.ireturn, 1) := by decide +kernel
set_option maxRecDepth 20000 in
theorem ggX0_add_X0_checkSubject : GoodIn wsX0_add wsX0_checkSubject := goodIn_ca (goodIn_r _ [5, 6, 7] (by decide +kernel) (by decide +kernel)) (goodIn_sub (fun _ h => List.mem_cons_of_mem _ (List.mem_append_left _ (List.mem_append_left _ (List.mem_append_right _ h)))) (by decide +kernel))
set_option maxRecDepth 20000 in
theorem gX0_add_X0_checkSubject : GoodIn wsX0_add (wsV RX0 62 RX0 yX0_checkSubject wsX0_checkSubject) := goodIn_app (goodIn_of _ (by decide +kernel)) ggX0_add_X0_checkSubject
set_option maxRecDepth 20000 in
theorem ggX0_add_X0_checkPurposes : GoodIn wsX0_add wsX0_checkPurposes := goodIn_ca (goodIn_ca (goodIn_r _ [11, 6, 7, 12, 13, 14, 15, 16, 4, 17, 18, 19, 20, 21, 53, 54, 55, 56, 57, 58, 59, 60, 61, 62, 63, 64, 65, 66, 67, 68] (by decide +kernel) (by decide +kernel)) (goodIn_sub (fun _ h => List.mem_cons_of_mem _ (List.mem_append_left _ (List.mem_append_left _ (List.mem_append_right _ h)))) (by decide +kernel))) (goodIn_sub (fun _ h => List.mem_cons_of_mem _ (List.mem_append_left _ (List.mem_append_right _ h))) (by decide +kernel))
set_option maxRecDepth 20000 in
theorem gX0_add_X0_checkPurposes : GoodIn wsX0_add (wsV RX0 73 RX0 yX0_checkPurposes wsX0_checkPurposes) := goodIn_app (goodIn_of _ (by decide +kernel)) ggX0_add_X0_checkPurposes
set_option maxRecDepth 20000 in
theorem ggX0_add_X0_bit : GoodIn wsX0_add wsX0_bit := goodIn_r _ [21] (by decide +kernel) (by decide +kernel)
set_option maxRecDepth 20000 in
theorem gX0_add_X0_bit : GoodIn wsX0_add (va_wsS RX0 55 yX0_bit wsX0_bit) := goodIn_app (goodIn_of _ (by decide +kernel)) ggX0_add_X0_bit
set_option maxRecDepth 20000 in
theorem ggX0_add_X0_addRecord : GoodIn wsX0_add wsX0_addRecord := goodIn_ca (goodIn_r _ [25, 26, 27, 28, 29, 30, 31, 32, 33, 34, 35, 36, 37, 4, 38, 18, 39, 40, 41, 42, 43, 44, 14, 15, 16, 17, 19, 20, 21, 45, 46, 47, 48, 49, 50, 51, 52, 53, 54, 55, 56, 57, 58, 59, 60, 61, 62, 63, 64, 65, 66, 67, 68] (by decide +kernel) (by decide +kernel)) (goodIn_sub (fun _ h => List.mem_cons_of_mem _ (List.mem_append_right _ h)) (by decide +kernel))
set_option maxRecDepth 20000 in
theorem gX0_add_X0_addRecord : GoodIn wsX0_add (wsV RX0 76 RX0 yX0_addRecord wsX0_addRecord) := goodIn_app (goodIn_of _ (by decide +kernel)) ggX0_add_X0_addRecord
theorem dX0_add_0 : decode cX0_add 0 = .ok (.aload_n 0, 1) := by decide +kernel
theorem dX0_add_1 : decode cX0_add 1 = .ok (.iload_n 1, 1) := by decide +kernel
theorem dX0_add_2 : decode cX0_add 2 = .ok (.invokevirtual 62, 3) := by decide +kernel
theorem dX0_add_5 : decode cX0_add 5 = .ok (.aload_n 0, 1) := by decide +kernel
theorem dX0_add_6 : decode cX0_add 6 = .ok (.iload_n 2, 1) := by decide +kernel
theorem dX0_add_7 : decode cX0_add 7 = .ok (.invokevirtual 73, 3) := by decide +kernel
theorem dX0_add_10 : decode cX0_add 10 = .ok (.aload_n 0, 1) := by decide +kernel
theorem dX0_add_11 : decode cX0_add 11 = .ok (.iload_n 1, 1) := by decide +kernel
theorem dX0_add_12 : decode cX0_add 12 = .ok (.invokestatic 55, 3) := by decide +kernel
theorem dX0_add_15 : decode cX0_add 15 = .ok (.iload_n 2, 1) := by decide +kernel
theorem dX0_add_16 : decode cX0_add 16 = .ok (.iconst 0, 1) := by decide +kernel
theorem dX0_add_17 : decode cX0_add 17 = .ok (.invokevirtual 76, 3) := by decide +kernel
theorem dX0_add_20 : decode cX0_add 20 = .ok (.ireturn, 1) := by decide +kernel
set_option maxRecDepth 20000 in
theorem ggX0_derive_X0_checkRecord : GoodIn wsX0_derive wsX0_checkRecord := goodIn_ca (goodIn_r _ [9, 10, 11, 12, 53, 54, 55, 56, 57, 58, 59, 60, 61, 62, 63, 64, 65, 66, 67, 68] (by decide +kernel) (by decide +kernel)) (goodIn_sub (fun _ h => List.mem_cons_of_mem _ (List.mem_append_left _ (List.mem_append_right _ h))) (by decide +kernel))
set_option maxRecDepth 20000 in
theorem gX0_derive_X0_checkRecord : GoodIn wsX0_derive (wsV RX0 80 RX0 yX0_checkRecord wsX0_checkRecord) := goodIn_app (goodIn_of _ (by decide +kernel)) ggX0_derive_X0_checkRecord
set_option maxRecDepth 20000 in
theorem ggX0_derive_X0_checkPurposes : GoodIn wsX0_derive wsX0_checkPurposes := goodIn_ca (goodIn_ca (goodIn_r _ [16, 10, 11, 17, 18, 19, 20, 21, 8, 22, 23, 24, 25, 26, 53, 54, 55, 56, 57, 58, 59, 60, 61, 62, 63, 64, 65, 66, 67, 68] (by decide +kernel) (by decide +kernel)) (goodIn_sub (fun _ h => List.mem_cons_of_mem _ (List.mem_append_left _ (List.mem_append_right _ h))) (by decide +kernel))) (goodIn_sub (fun _ h => List.mem_cons_of_mem _ (List.mem_append_right _ h)) (by decide +kernel))
set_option maxRecDepth 20000 in
theorem gX0_derive_X0_checkPurposes : GoodIn wsX0_derive (wsV RX0 73 RX0 yX0_checkPurposes wsX0_checkPurposes) := goodIn_app (goodIn_of _ (by decide +kernel)) ggX0_derive_X0_checkPurposes
set_option maxRecDepth 20000 in
theorem ggX0_derive_X0_has : GoodIn wsX0_derive wsX0_has := goodIn_r _ [29, 24, 25, 8, 26] (by decide +kernel) (by decide +kernel)
set_option maxRecDepth 20000 in
theorem gX0_derive_X0_has : GoodIn wsX0_derive (va_wsS RX0 65 yX0_has wsX0_has) := goodIn_app (goodIn_of _ (by decide +kernel)) ggX0_derive_X0_has
set_option maxRecDepth 20000 in
theorem ggX0_derive_X0_bit : GoodIn wsX0_derive wsX0_bit := goodIn_r _ [26] (by decide +kernel) (by decide +kernel)
set_option maxRecDepth 20000 in
theorem gX0_derive_X0_bit : GoodIn wsX0_derive (va_wsS RX0 55 yX0_bit wsX0_bit) := goodIn_app (goodIn_of _ (by decide +kernel)) ggX0_derive_X0_bit
set_option maxRecDepth 20000 in
theorem ggX0_derive_X0_addRecord : GoodIn wsX0_derive wsX0_addRecord := goodIn_ca (goodIn_r _ [33, 1, 2, 12, 34, 35, 36, 4, 37, 3, 38, 39, 40, 8, 41, 23, 42, 43, 44, 45, 46, 47, 19, 20, 21, 22, 24, 25, 26, 27, 28, 29, 48, 49, 50, 51, 52, 53, 54, 55, 56, 57, 58, 59, 60, 61, 62, 63, 64, 65, 66, 67, 68] (by decide +kernel) (by decide +kernel)) (goodIn_sub (fun _ h => List.mem_cons_of_mem _ (List.mem_append_left _ (List.mem_append_left _ (List.mem_append_right _ h)))) (by decide +kernel))
set_option maxRecDepth 20000 in
theorem gX0_derive_X0_addRecord : GoodIn wsX0_derive (wsV RX0 76 RX0 yX0_addRecord wsX0_addRecord) := goodIn_app (goodIn_of _ (by decide +kernel)) ggX0_derive_X0_addRecord
theorem dX0_derive_0 : decode cX0_derive 0 = .ok (.aload_n 0, 1) := by decide +kernel
theorem dX0_derive_1 : decode cX0_derive 1 = .ok (.iload_n 1, 1) := by decide +kernel
theorem dX0_derive_2 : decode cX0_derive 2 = .ok (.invokevirtual 80, 3) := by decide +kernel
theorem dX0_derive_5 : decode cX0_derive 5 = .ok (.aload_n 0, 1) := by decide +kernel
theorem dX0_derive_6 : decode cX0_derive 6 = .ok (.iload_n 2, 1) := by decide +kernel
theorem dX0_derive_7 : decode cX0_derive 7 = .ok (.invokevirtual 73, 3) := by decide +kernel
theorem dX0_derive_10 : decode cX0_derive 10 = .ok (.aload_n 0, 1) := by decide +kernel
theorem dX0_derive_11 : decode cX0_derive 11 = .ok (.getfield 83, 3) := by decide +kernel
theorem dX0_derive_14 : decode cX0_derive 14 = .ok (.iload_n 1, 1) := by decide +kernel
theorem dX0_derive_15 : decode cX0_derive 15 = .ok (.invokestatic 65, 3) := by decide +kernel
theorem dX0_derive_18 : decode cX0_derive 18 = .ok (.ifCond .ne 13, 3) := by decide +kernel
theorem dX0_derive_21 : decode cX0_derive 21 = .ok (.new 45, 3) := by decide +kernel
theorem dX0_derive_24 : decode cX0_derive 24 = .ok (.dup, 1) := by decide +kernel
theorem dX0_derive_25 : decode cX0_derive 25 = .ok (.ldc 86, 2) := by decide +kernel
theorem dX0_derive_27 : decode cX0_derive 27 = .ok (.invokespecial 49, 3) := by decide +kernel
theorem dX0_derive_30 : decode cX0_derive 30 = .ok (.athrow, 1) := by decide +kernel
theorem dX0_derive_31 : decode cX0_derive 31 = .ok (.aload_n 0, 1) := by decide +kernel
theorem dX0_derive_32 : decode cX0_derive 32 = .ok (.aload_n 0, 1) := by decide +kernel
theorem dX0_derive_33 : decode cX0_derive 33 = .ok (.getfield 25, 3) := by decide +kernel
theorem dX0_derive_36 : decode cX0_derive 36 = .ok (.iload_n 1, 1) := by decide +kernel
theorem dX0_derive_37 : decode cX0_derive 37 = .ok (.iaload, 1) := by decide +kernel
theorem dX0_derive_38 : decode cX0_derive 38 = .ok (.iload_n 2, 1) := by decide +kernel
theorem dX0_derive_39 : decode cX0_derive 39 = .ok (.iload_n 1, 1) := by decide +kernel
theorem dX0_derive_40 : decode cX0_derive 40 = .ok (.invokestatic 55, 3) := by decide +kernel
theorem dX0_derive_43 : decode cX0_derive 43 = .ok (.invokevirtual 76, 3) := by decide +kernel
theorem dX0_derive_46 : decode cX0_derive 46 = .ok (.ireturn, 1) := by decide +kernel
set_option maxRecDepth 20000 in
theorem ggX0_addSource_X0_checkRecord : GoodIn wsX0_addSource wsX0_checkRecord := goodIn_ca (goodIn_r _ [12, 13, 14, 15, 41, 42, 43, 44, 45, 46, 47, 48, 49, 50, 51, 52, 53, 54, 55, 56] (by decide +kernel) (by decide +kernel)) (goodIn_sub (fun _ h => List.mem_cons_of_mem _ (List.mem_append_right _ h)) (by decide +kernel))
set_option maxRecDepth 20000 in
theorem gX0_addSource_X0_checkRecord : GoodIn wsX0_addSource (wsV RX0 80 RX0 yX0_checkRecord wsX0_checkRecord) := goodIn_app (goodIn_of _ (by decide +kernel)) ggX0_addSource_X0_checkRecord
set_option maxRecDepth 20000 in
theorem ggX0_addSource_X0_has : GoodIn wsX0_addSource wsX0_has := goodIn_r _ [18, 19, 20, 11, 21] (by decide +kernel) (by decide +kernel)
set_option maxRecDepth 20000 in
theorem gX0_addSource_X0_has : GoodIn wsX0_addSource (va_wsS RX0 65 yX0_has wsX0_has) := goodIn_app (goodIn_of _ (by decide +kernel)) ggX0_addSource_X0_has
set_option maxRecDepth 20000 in
theorem ggX0_addSource_X0_isRoot : GoodIn wsX0_addSource wsX0_isRoot := goodIn_r _ [25, 5, 41, 42, 43, 44, 45, 46, 47, 48, 49, 50, 51, 52, 53, 54, 55, 56] (by decide +kernel) (by decide +kernel)
set_option maxRecDepth 20000 in
theorem gX0_addSource_X0_isRoot : GoodIn wsX0_addSource (wsV RX0 95 RX0 yX0_isRoot wsX0_isRoot) := goodIn_app (goodIn_of _ (by decide +kernel)) ggX0_addSource_X0_isRoot
set_option maxRecDepth 20000 in
theorem ggX0_addSource_X0_bit : GoodIn wsX0_addSource wsX0_bit := goodIn_r _ [21] (by decide +kernel) (by decide +kernel)
set_option maxRecDepth 20000 in
theorem gX0_addSource_X0_bit : GoodIn wsX0_addSource (va_wsS RX0 55 yX0_bit wsX0_bit) := goodIn_app (goodIn_of _ (by decide +kernel)) ggX0_addSource_X0_bit
set_option maxRecDepth 20000 in
theorem ggX0_addSource_X0_withAllBelow : GoodIn wsX0_addSource wsX0_withAllBelow := goodIn_r _ [29, 15, 5, 19, 20, 11, 21, 41, 42, 43, 44, 45, 46, 47, 48, 49, 50, 51, 52, 53, 54, 55, 56] (by decide +kernel) (by decide +kernel)
set_option maxRecDepth 20000 in
theorem gX0_addSource_X0_withAllBelow : GoodIn wsX0_addSource (wsV RX0 103 RX0 yX0_withAllBelow wsX0_withAllBelow) := goodIn_app (goodIn_of _ (by decide +kernel)) ggX0_addSource_X0_withAllBelow
set_option maxRecDepth 20000 in
theorem ggX0_addSource_X0_addSubjects : GoodIn wsX0_addSource wsX0_addSubjects := goodIn_r _ [33, 15, 7, 16, 17, 11, 18, 19, 20, 21, 41, 42, 43, 44, 45, 46, 47, 48, 49, 50, 51, 52, 53, 54, 55, 56] (by decide +kernel) (by decide +kernel)
set_option maxRecDepth 20000 in
theorem gX0_addSource_X0_addSubjects : GoodIn wsX0_addSource (wsV RX0 106 RX0 yX0_addSubjects wsX0_addSubjects) := goodIn_app (goodIn_of _ (by decide +kernel)) ggX0_addSource_X0_addSubjects
set_option maxRecDepth 20000 in
theorem ggX0_addSource_J6_bitCount_0f7a4 : GoodIn wsX0_addSource wsJ6_bitCount_0f7a4 := goodIn_r _ [37, 38, 39, 40] (by decide +kernel) (by decide +kernel)
set_option maxRecDepth 20000 in
theorem gX0_addSource_J6_bitCount_0f7a4 : GoodIn wsX0_addSource (va_wsS RX0 110 yJ6_bitCount_0f7a4 wsJ6_bitCount_0f7a4) := goodIn_app (goodIn_of _ (by decide +kernel)) ggX0_addSource_J6_bitCount_0f7a4
theorem dX0_addSource_0 : decode cX0_addSource 0 = .ok (.aload_n 0, 1) := by decide +kernel
theorem dX0_addSource_1 : decode cX0_addSource 1 = .ok (.iload_n 1, 1) := by decide +kernel
theorem dX0_addSource_2 : decode cX0_addSource 2 = .ok (.invokevirtual 80, 3) := by decide +kernel
theorem dX0_addSource_5 : decode cX0_addSource 5 = .ok (.aload_n 0, 1) := by decide +kernel
theorem dX0_addSource_6 : decode cX0_addSource 6 = .ok (.iload_n 2, 1) := by decide +kernel
theorem dX0_addSource_7 : decode cX0_addSource 7 = .ok (.invokevirtual 80, 3) := by decide +kernel
theorem dX0_addSource_10 : decode cX0_addSource 10 = .ok (.iload_n 2, 1) := by decide +kernel
theorem dX0_addSource_11 : decode cX0_addSource 11 = .ok (.iload_n 1, 1) := by decide +kernel
theorem dX0_addSource_12 : decode cX0_addSource 12 = .ok (.if_icmp .lt 13, 3) := by decide +kernel
theorem dX0_addSource_15 : decode cX0_addSource 15 = .ok (.new 88, 3) := by decide +kernel
theorem dX0_addSource_18 : decode cX0_addSource 18 = .ok (.dup, 1) := by decide +kernel
theorem dX0_addSource_19 : decode cX0_addSource 19 = .ok (.ldc 90, 2) := by decide +kernel
theorem dX0_addSource_21 : decode cX0_addSource 21 = .ok (.invokespecial 92, 3) := by decide +kernel
theorem dX0_addSource_24 : decode cX0_addSource 24 = .ok (.athrow, 1) := by decide +kernel
theorem dX0_addSource_25 : decode cX0_addSource 25 = .ok (.aload_n 0, 1) := by decide +kernel
theorem dX0_addSource_26 : decode cX0_addSource 26 = .ok (.getfield 28, 3) := by decide +kernel
theorem dX0_addSource_29 : decode cX0_addSource 29 = .ok (.iload_n 1, 1) := by decide +kernel
theorem dX0_addSource_30 : decode cX0_addSource 30 = .ok (.iaload, 1) := by decide +kernel
theorem dX0_addSource_31 : decode cX0_addSource 31 = .ok (.iload_n 2, 1) := by decide +kernel
theorem dX0_addSource_32 : decode cX0_addSource 32 = .ok (.invokestatic 65, 3) := by decide +kernel
theorem dX0_addSource_35 : decode cX0_addSource 35 = .ok (.ifCond .eq 13, 3) := by decide +kernel
theorem dX0_addSource_38 : decode cX0_addSource 38 = .ok (.new 88, 3) := by decide +kernel
theorem dX0_addSource_41 : decode cX0_addSource 41 = .ok (.dup, 1) := by decide +kernel
theorem dX0_addSource_42 : decode cX0_addSource 42 = .ok (.ldc 93, 2) := by decide +kernel
theorem dX0_addSource_44 : decode cX0_addSource 44 = .ok (.invokespecial 92, 3) := by decide +kernel
theorem dX0_addSource_47 : decode cX0_addSource 47 = .ok (.athrow, 1) := by decide +kernel
theorem dX0_addSource_48 : decode cX0_addSource 48 = .ok (.aload_n 0, 1) := by decide +kernel
theorem dX0_addSource_49 : decode cX0_addSource 49 = .ok (.iload_n 1, 1) := by decide +kernel
theorem dX0_addSource_50 : decode cX0_addSource 50 = .ok (.invokevirtual 95, 3) := by decide +kernel
theorem dX0_addSource_53 : decode cX0_addSource 53 = .ok (.ifCond .eq 13, 3) := by decide +kernel
theorem dX0_addSource_56 : decode cX0_addSource 56 = .ok (.new 45, 3) := by decide +kernel
theorem dX0_addSource_59 : decode cX0_addSource 59 = .ok (.dup, 1) := by decide +kernel
theorem dX0_addSource_60 : decode cX0_addSource 60 = .ok (.ldc 99, 2) := by decide +kernel
theorem dX0_addSource_62 : decode cX0_addSource 62 = .ok (.invokespecial 49, 3) := by decide +kernel
theorem dX0_addSource_65 : decode cX0_addSource 65 = .ok (.athrow, 1) := by decide +kernel
theorem dX0_addSource_66 : decode cX0_addSource 66 = .ok (.aload_n 0, 1) := by decide +kernel
theorem dX0_addSource_67 : decode cX0_addSource 67 = .ok (.getfield 83, 3) := by decide +kernel
theorem dX0_addSource_70 : decode cX0_addSource 70 = .ok (.iload_n 1, 1) := by decide +kernel
theorem dX0_addSource_71 : decode cX0_addSource 71 = .ok (.invokestatic 65, 3) := by decide +kernel
theorem dX0_addSource_74 : decode cX0_addSource 74 = .ok (.ifCond .eq 14, 3) := by decide +kernel
theorem dX0_addSource_77 : decode cX0_addSource 77 = .ok (.aload_n 0, 1) := by decide +kernel
theorem dX0_addSource_78 : decode cX0_addSource 78 = .ok (.getfield 83, 3) := by decide +kernel
theorem dX0_addSource_81 : decode cX0_addSource 81 = .ok (.iload_n 2, 1) := by decide +kernel
theorem dX0_addSource_82 : decode cX0_addSource 82 = .ok (.invokestatic 65, 3) := by decide +kernel
theorem dX0_addSource_85 : decode cX0_addSource 85 = .ok (.ifCond .ne 13, 3) := by decide +kernel
theorem dX0_addSource_88 : decode cX0_addSource 88 = .ok (.new 45, 3) := by decide +kernel
theorem dX0_addSource_91 : decode cX0_addSource 91 = .ok (.dup, 1) := by decide +kernel
theorem dX0_addSource_92 : decode cX0_addSource 92 = .ok (.ldc 101, 2) := by decide +kernel
theorem dX0_addSource_94 : decode cX0_addSource 94 = .ok (.invokespecial 49, 3) := by decide +kernel
theorem dX0_addSource_97 : decode cX0_addSource 97 = .ok (.athrow, 1) := by decide +kernel
theorem dX0_addSource_98 : decode cX0_addSource 98 = .ok (.aload_n 0, 1) := by decide +kernel
theorem dX0_addSource_99 : decode cX0_addSource 99 = .ok (.getfield 28, 3) := by decide +kernel
theorem dX0_addSource_102 : decode cX0_addSource 102 = .ok (.iload_n 1, 1) := by decide +kernel
theorem dX0_addSource_103 : decode cX0_addSource 103 = .ok (.dup2, 1) := by decide +kernel
theorem dX0_addSource_104 : decode cX0_addSource 104 = .ok (.iaload, 1) := by decide +kernel
theorem dX0_addSource_105 : decode cX0_addSource 105 = .ok (.iload_n 2, 1) := by decide +kernel
theorem dX0_addSource_106 : decode cX0_addSource 106 = .ok (.invokestatic 55, 3) := by decide +kernel
theorem dX0_addSource_109 : decode cX0_addSource 109 = .ok (.ior, 1) := by decide +kernel
theorem dX0_addSource_110 : decode cX0_addSource 110 = .ok (.iastore, 1) := by decide +kernel
theorem dX0_addSource_111 : decode cX0_addSource 111 = .ok (.aload_n 0, 1) := by decide +kernel
theorem dX0_addSource_112 : decode cX0_addSource 112 = .ok (.aload_n 0, 1) := by decide +kernel
theorem dX0_addSource_113 : decode cX0_addSource 113 = .ok (.iload_n 1, 1) := by decide +kernel
theorem dX0_addSource_114 : decode cX0_addSource 114 = .ok (.invokestatic 55, 3) := by decide +kernel
theorem dX0_addSource_117 : decode cX0_addSource 117 = .ok (.invokevirtual 103, 3) := by decide +kernel
theorem dX0_addSource_120 : decode cX0_addSource 120 = .ok (.aload_n 0, 1) := by decide +kernel
theorem dX0_addSource_121 : decode cX0_addSource 121 = .ok (.getfield 25, 3) := by decide +kernel
theorem dX0_addSource_124 : decode cX0_addSource 124 = .ok (.iload_n 2, 1) := by decide +kernel
theorem dX0_addSource_125 : decode cX0_addSource 125 = .ok (.iaload, 1) := by decide +kernel
theorem dX0_addSource_126 : decode cX0_addSource 126 = .ok (.invokevirtual 106, 3) := by decide +kernel
theorem dX0_addSource_129 : decode cX0_addSource 129 = .ok (.aload_n 0, 1) := by decide +kernel
theorem dX0_addSource_130 : decode cX0_addSource 130 = .ok (.getfield 25, 3) := by decide +kernel
theorem dX0_addSource_133 : decode cX0_addSource 133 = .ok (.iload_n 1, 1) := by decide +kernel
theorem dX0_addSource_134 : decode cX0_addSource 134 = .ok (.iaload, 1) := by decide +kernel
theorem dX0_addSource_135 : decode cX0_addSource 135 = .ok (.invokestatic 110, 3) := by decide +kernel
theorem dX0_addSource_138 : decode cX0_addSource 138 = .ok (.ireturn, 1) := by decide +kernel
theorem dX0_records_0 : decode cX0_records 0 = .ok (.aload_n 0, 1) := by decide +kernel
theorem dX0_records_1 : decode cX0_records 1 = .ok (.getfield 115, 3) := by decide +kernel
theorem dX0_records_4 : decode cX0_records 4 = .ok (.ireturn, 1) := by decide +kernel
set_option maxRecDepth 20000 in
theorem ggX0_stateOf_X0_checkRecord : GoodIn wsX0_stateOf wsX0_checkRecord := goodIn_ca (goodIn_r _ [7, 8, 9, 10, 17, 18, 19, 20, 21, 22, 23, 24, 25, 26, 27, 28, 29, 30, 31, 32] (by decide +kernel) (by decide +kernel)) (goodIn_sub (fun _ h => List.mem_cons_of_mem _ (List.mem_append_right _ h)) (by decide +kernel))
set_option maxRecDepth 20000 in
theorem gX0_stateOf_X0_checkRecord : GoodIn wsX0_stateOf (wsV RX0 80 RX0 yX0_checkRecord wsX0_checkRecord) := goodIn_app (goodIn_of _ (by decide +kernel)) ggX0_stateOf_X0_checkRecord
set_option maxRecDepth 20000 in
theorem ggX0_stateOf_X0_has : GoodIn wsX0_stateOf wsX0_has := goodIn_r _ [13, 14, 15, 6, 16] (by decide +kernel) (by decide +kernel)
set_option maxRecDepth 20000 in
theorem gX0_stateOf_X0_has : GoodIn wsX0_stateOf (va_wsS RX0 65 yX0_has wsX0_has) := goodIn_app (goodIn_of _ (by decide +kernel)) ggX0_stateOf_X0_has
theorem dX0_stateOf_0 : decode cX0_stateOf 0 = .ok (.aload_n 0, 1) := by decide +kernel
theorem dX0_stateOf_1 : decode cX0_stateOf 1 = .ok (.iload_n 1, 1) := by decide +kernel
theorem dX0_stateOf_2 : decode cX0_stateOf 2 = .ok (.invokevirtual 80, 3) := by decide +kernel
theorem dX0_stateOf_5 : decode cX0_stateOf 5 = .ok (.aload_n 0, 1) := by decide +kernel
theorem dX0_stateOf_6 : decode cX0_stateOf 6 = .ok (.getfield 118, 3) := by decide +kernel
theorem dX0_stateOf_9 : decode cX0_stateOf 9 = .ok (.iload_n 1, 1) := by decide +kernel
theorem dX0_stateOf_10 : decode cX0_stateOf 10 = .ok (.invokestatic 65, 3) := by decide +kernel
theorem dX0_stateOf_13 : decode cX0_stateOf 13 = .ok (.ifCond .eq 5, 3) := by decide +kernel
theorem dX0_stateOf_16 : decode cX0_stateOf 16 = .ok (.iconst 2, 1) := by decide +kernel
theorem dX0_stateOf_17 : decode cX0_stateOf 17 = .ok (.ireturn, 1) := by decide +kernel
theorem dX0_stateOf_18 : decode cX0_stateOf 18 = .ok (.aload_n 0, 1) := by decide +kernel
theorem dX0_stateOf_19 : decode cX0_stateOf 19 = .ok (.getfield 121, 3) := by decide +kernel
theorem dX0_stateOf_22 : decode cX0_stateOf 22 = .ok (.iload_n 1, 1) := by decide +kernel
theorem dX0_stateOf_23 : decode cX0_stateOf 23 = .ok (.invokestatic 65, 3) := by decide +kernel
theorem dX0_stateOf_26 : decode cX0_stateOf 26 = .ok (.ifCond .eq 7, 3) := by decide +kernel
theorem dX0_stateOf_29 : decode cX0_stateOf 29 = .ok (.iconst 1, 1) := by decide +kernel
theorem dX0_stateOf_30 : decode cX0_stateOf 30 = .ok (.goto 4, 3) := by decide +kernel
theorem dX0_stateOf_33 : decode cX0_stateOf 33 = .ok (.iconst 0, 1) := by decide +kernel
theorem dX0_stateOf_34 : decode cX0_stateOf 34 = .ok (.ireturn, 1) := by decide +kernel
set_option maxRecDepth 20000 in
theorem ggX0_subjectsOf_X0_checkRecord : GoodIn wsX0_subjectsOf wsX0_checkRecord := goodIn_ca (goodIn_r _ [6, 7, 8, 9, 10, 11, 12, 13, 14, 15, 16, 17, 18, 19, 20, 21, 22, 23, 24, 25] (by decide +kernel) (by decide +kernel)) (goodIn_sub (fun _ h => List.mem_cons_of_mem _ (List.mem_append_right _ h)) (by decide +kernel))
set_option maxRecDepth 20000 in
theorem gX0_subjectsOf_X0_checkRecord : GoodIn wsX0_subjectsOf (wsV RX0 80 RX0 yX0_checkRecord wsX0_checkRecord) := goodIn_app (goodIn_of _ (by decide +kernel)) ggX0_subjectsOf_X0_checkRecord
theorem dX0_subjectsOf_0 : decode cX0_subjectsOf 0 = .ok (.aload_n 0, 1) := by decide +kernel
theorem dX0_subjectsOf_1 : decode cX0_subjectsOf 1 = .ok (.iload_n 1, 1) := by decide +kernel
theorem dX0_subjectsOf_2 : decode cX0_subjectsOf 2 = .ok (.invokevirtual 80, 3) := by decide +kernel
theorem dX0_subjectsOf_5 : decode cX0_subjectsOf 5 = .ok (.aload_n 0, 1) := by decide +kernel
theorem dX0_subjectsOf_6 : decode cX0_subjectsOf 6 = .ok (.getfield 25, 3) := by decide +kernel
theorem dX0_subjectsOf_9 : decode cX0_subjectsOf 9 = .ok (.iload_n 1, 1) := by decide +kernel
theorem dX0_subjectsOf_10 : decode cX0_subjectsOf 10 = .ok (.iaload, 1) := by decide +kernel
theorem dX0_subjectsOf_11 : decode cX0_subjectsOf 11 = .ok (.ireturn, 1) := by decide +kernel
set_option maxRecDepth 20000 in
theorem ggX0_below_X0_checkRecord : GoodIn wsX0_below wsX0_checkRecord := goodIn_ca (goodIn_r _ [5, 6, 7, 8, 21, 22, 23, 24, 25, 26, 27, 28, 29, 30, 31, 32, 33, 34, 35, 36] (by decide +kernel) (by decide +kernel)) (goodIn_sub (fun _ h => List.mem_cons_of_mem _ (List.mem_append_right _ h)) (by decide +kernel))
set_option maxRecDepth 20000 in
theorem gX0_below_X0_checkRecord : GoodIn wsX0_below (wsV RX0 80 RX0 yX0_checkRecord wsX0_checkRecord) := goodIn_app (goodIn_of _ (by decide +kernel)) ggX0_below_X0_checkRecord
set_option maxRecDepth 20000 in
theorem ggX0_below_X0_allBelow : GoodIn wsX0_below wsX0_allBelow := goodIn_r _ [12, 13, 14, 4, 15, 16, 17, 18, 19, 8, 20, 21, 22, 23, 24, 25, 26, 27, 28, 29, 30, 31, 32, 33, 34, 35, 36] (by decide +kernel) (by decide +kernel)
set_option maxRecDepth 20000 in
theorem gX0_below_X0_allBelow : GoodIn wsX0_below (wsV RX0 124 RX0 yX0_allBelow wsX0_allBelow) := goodIn_app (goodIn_of _ (by decide +kernel)) ggX0_below_X0_allBelow
theorem dX0_below_0 : decode cX0_below 0 = .ok (.aload_n 0, 1) := by decide +kernel
theorem dX0_below_1 : decode cX0_below 1 = .ok (.iload_n 1, 1) := by decide +kernel
theorem dX0_below_2 : decode cX0_below 2 = .ok (.invokevirtual 80, 3) := by decide +kernel
theorem dX0_below_5 : decode cX0_below 5 = .ok (.aload_n 0, 1) := by decide +kernel
theorem dX0_below_6 : decode cX0_below 6 = .ok (.iload_n 1, 1) := by decide +kernel
theorem dX0_below_7 : decode cX0_below 7 = .ok (.invokevirtual 124, 3) := by decide +kernel
theorem dX0_below_10 : decode cX0_below 10 = .ok (.ireturn, 1) := by decide +kernel
set_option maxRecDepth 20000 in
theorem ggX0_endOf_X0_checkRecord : GoodIn wsX0_endOf wsX0_checkRecord := goodIn_ca (goodIn_r _ [5, 6, 7, 8, 38, 39, 40, 41, 42, 43, 44, 45, 46, 47, 48, 49, 50, 51, 52, 53] (by decide +kernel) (by decide +kernel)) (goodIn_sub (fun _ h => List.mem_cons_of_mem _ (List.mem_append_right _ h)) (by decide +kernel))
set_option maxRecDepth 20000 in
theorem gX0_endOf_X0_checkRecord : GoodIn wsX0_endOf (wsV RX0 80 RX0 yX0_checkRecord wsX0_checkRecord) := goodIn_app (goodIn_of _ (by decide +kernel)) ggX0_endOf_X0_checkRecord
set_option maxRecDepth 20000 in
theorem ggX0_endOf_X0_endNow : GoodIn wsX0_endOf wsX0_endNow := goodIn_r _ [12, 13, 14, 15, 16, 17, 18, 19, 20, 21, 22, 23, 24, 4, 25, 26, 27, 28, 29, 30, 31, 32, 33, 34, 35, 36, 37, 38, 39, 40, 41, 42, 43, 44, 45, 46, 47, 48, 49, 50, 51, 52, 53] (by decide +kernel) (by decide +kernel)
set_option maxRecDepth 20000 in
theorem gX0_endOf_X0_endNow : GoodIn wsX0_endOf (wsV RX0 127 RX0 yX0_endNow wsX0_endNow) := goodIn_app (goodIn_of _ (by decide +kernel)) ggX0_endOf_X0_endNow
theorem dX0_endOf_0 : decode cX0_endOf 0 = .ok (.aload_n 0, 1) := by decide +kernel
theorem dX0_endOf_1 : decode cX0_endOf 1 = .ok (.iload_n 1, 1) := by decide +kernel
theorem dX0_endOf_2 : decode cX0_endOf 2 = .ok (.invokevirtual 80, 3) := by decide +kernel
theorem dX0_endOf_5 : decode cX0_endOf 5 = .ok (.aload_n 0, 1) := by decide +kernel
theorem dX0_endOf_6 : decode cX0_endOf 6 = .ok (.iload_n 1, 1) := by decide +kernel
theorem dX0_endOf_7 : decode cX0_endOf 7 = .ok (.invokevirtual 127, 3) := by decide +kernel
theorem dX0_endOf_10 : decode cX0_endOf 10 = .ok (.ireturn, 1) := by decide +kernel
set_option maxRecDepth 20000 in
theorem ggX0_whyNoUse_X0_checkRecord : GoodIn wsX0_whyNoUse wsX0_checkRecord := goodIn_ca (goodIn_r _ [10, 11, 12, 13, 41, 42, 43, 44, 45, 46, 47, 48, 49, 50, 51, 52, 53, 54, 55, 56] (by decide +kernel) (by decide +kernel)) (goodIn_sub (fun _ h => List.mem_cons_of_mem _ (List.mem_append_right _ h)) (by decide +kernel))
set_option maxRecDepth 20000 in
theorem gX0_whyNoUse_X0_checkRecord : GoodIn wsX0_whyNoUse (wsV RX0 80 RX0 yX0_checkRecord wsX0_checkRecord) := goodIn_app (goodIn_of _ (by decide +kernel)) ggX0_whyNoUse_X0_checkRecord
set_option maxRecDepth 20000 in
theorem ggX0_whyNoUse_X0_checkPurpose : GoodIn wsX0_whyNoUse wsX0_checkPurpose := goodIn_ca (goodIn_r _ [17, 11, 12, 18, 41, 42, 43, 44, 45, 46, 47, 48, 49, 50, 51, 52, 53, 54, 55, 56] (by decide +kernel) (by decide +kernel)) (goodIn_sub (fun _ h => List.mem_cons_of_mem _ (List.mem_append_right _ h)) (by decide +kernel))
set_option maxRecDepth 20000 in
theorem gX0_whyNoUse_X0_checkPurpose : GoodIn wsX0_whyNoUse (wsV RX0 59 RX0 yX0_checkPurpose wsX0_checkPurpose) := goodIn_app (goodIn_of _ (by decide +kernel)) ggX0_whyNoUse_X0_checkPurpose
set_option maxRecDepth 20000 in
theorem ggX0_whyNoUse_X0_has : GoodIn wsX0_whyNoUse wsX0_has := goodIn_r _ [21, 22, 23, 9, 24] (by decide +kernel) (by decide +kernel)
set_option maxRecDepth 20000 in
theorem gX0_whyNoUse_X0_has : GoodIn wsX0_whyNoUse (va_wsS RX0 65 yX0_has wsX0_has) := goodIn_app (goodIn_of _ (by decide +kernel)) ggX0_whyNoUse_X0_has
set_option maxRecDepth 20000 in
theorem ggX0_whyNoUse_X0_purposesAllowedBy : GoodIn wsX0_whyNoUse wsX0_purposesAllowedBy := goodIn_r _ [28, 29, 30, 31, 32, 33, 9, 34, 18, 22, 23, 24, 19, 20, 21, 41, 42, 43, 44, 45, 46, 47, 48, 49, 50, 51, 52, 53, 54, 55, 56] (by decide +kernel) (by decide +kernel)
set_option maxRecDepth 20000 in
theorem gX0_whyNoUse_X0_purposesAllowedBy : GoodIn wsX0_whyNoUse (wsV RX0 130 RX0 yX0_purposesAllowedBy wsX0_purposesAllowedBy) := goodIn_app (goodIn_of _ (by decide +kernel)) ggX0_whyNoUse_X0_purposesAllowedBy
set_option maxRecDepth 20000 in
theorem ggX0_whyNoUse_X0_isRetained : GoodIn wsX0_whyNoUse wsX0_isRetained := goodIn_r _ [38, 39, 40, 41, 42, 43, 44, 45, 46, 47, 48, 49, 50, 51, 52, 53, 54, 55, 56] (by decide +kernel) (by decide +kernel)
set_option maxRecDepth 20000 in
theorem gX0_whyNoUse_X0_isRetained : GoodIn wsX0_whyNoUse (wsV RX0 133 RX0 yX0_isRetained wsX0_isRetained) := goodIn_app (goodIn_of _ (by decide +kernel)) ggX0_whyNoUse_X0_isRetained
theorem dX0_whyNoUse_0 : decode cX0_whyNoUse 0 = .ok (.aload_n 0, 1) := by decide +kernel
theorem dX0_whyNoUse_1 : decode cX0_whyNoUse 1 = .ok (.iload_n 1, 1) := by decide +kernel
theorem dX0_whyNoUse_2 : decode cX0_whyNoUse 2 = .ok (.invokevirtual 80, 3) := by decide +kernel
theorem dX0_whyNoUse_5 : decode cX0_whyNoUse 5 = .ok (.aload_n 0, 1) := by decide +kernel
theorem dX0_whyNoUse_6 : decode cX0_whyNoUse 6 = .ok (.iload_n 2, 1) := by decide +kernel
theorem dX0_whyNoUse_7 : decode cX0_whyNoUse 7 = .ok (.invokevirtual 59, 3) := by decide +kernel
theorem dX0_whyNoUse_10 : decode cX0_whyNoUse 10 = .ok (.aload_n 0, 1) := by decide +kernel
theorem dX0_whyNoUse_11 : decode cX0_whyNoUse 11 = .ok (.getfield 118, 3) := by decide +kernel
theorem dX0_whyNoUse_14 : decode cX0_whyNoUse 14 = .ok (.iload_n 1, 1) := by decide +kernel
theorem dX0_whyNoUse_15 : decode cX0_whyNoUse 15 = .ok (.invokestatic 65, 3) := by decide +kernel
theorem dX0_whyNoUse_18 : decode cX0_whyNoUse 18 = .ok (.ifCond .eq 5, 3) := by decide +kernel
theorem dX0_whyNoUse_21 : decode cX0_whyNoUse 21 = .ok (.iconst 1, 1) := by decide +kernel
theorem dX0_whyNoUse_22 : decode cX0_whyNoUse 22 = .ok (.ireturn, 1) := by decide +kernel
theorem dX0_whyNoUse_23 : decode cX0_whyNoUse 23 = .ok (.aload_n 0, 1) := by decide +kernel
theorem dX0_whyNoUse_24 : decode cX0_whyNoUse 24 = .ok (.getfield 121, 3) := by decide +kernel
theorem dX0_whyNoUse_27 : decode cX0_whyNoUse 27 = .ok (.iload_n 1, 1) := by decide +kernel
theorem dX0_whyNoUse_28 : decode cX0_whyNoUse 28 = .ok (.invokestatic 65, 3) := by decide +kernel
theorem dX0_whyNoUse_31 : decode cX0_whyNoUse 31 = .ok (.ifCond .eq 5, 3) := by decide +kernel
theorem dX0_whyNoUse_34 : decode cX0_whyNoUse 34 = .ok (.iconst 2, 1) := by decide +kernel
theorem dX0_whyNoUse_35 : decode cX0_whyNoUse 35 = .ok (.ireturn, 1) := by decide +kernel
theorem dX0_whyNoUse_36 : decode cX0_whyNoUse 36 = .ok (.aload_n 0, 1) := by decide +kernel
theorem dX0_whyNoUse_37 : decode cX0_whyNoUse 37 = .ok (.getfield 22, 3) := by decide +kernel
theorem dX0_whyNoUse_40 : decode cX0_whyNoUse 40 = .ok (.iload_n 1, 1) := by decide +kernel
theorem dX0_whyNoUse_41 : decode cX0_whyNoUse 41 = .ok (.iaload, 1) := by decide +kernel
theorem dX0_whyNoUse_42 : decode cX0_whyNoUse 42 = .ok (.iload_n 2, 1) := by decide +kernel
theorem dX0_whyNoUse_43 : decode cX0_whyNoUse 43 = .ok (.invokestatic 65, 3) := by decide +kernel
theorem dX0_whyNoUse_46 : decode cX0_whyNoUse 46 = .ok (.ifCond .ne 5, 3) := by decide +kernel
theorem dX0_whyNoUse_49 : decode cX0_whyNoUse 49 = .ok (.iconst 3, 1) := by decide +kernel
theorem dX0_whyNoUse_50 : decode cX0_whyNoUse 50 = .ok (.ireturn, 1) := by decide +kernel
theorem dX0_whyNoUse_51 : decode cX0_whyNoUse 51 = .ok (.aload_n 0, 1) := by decide +kernel
theorem dX0_whyNoUse_52 : decode cX0_whyNoUse 52 = .ok (.aload_n 0, 1) := by decide +kernel
theorem dX0_whyNoUse_53 : decode cX0_whyNoUse 53 = .ok (.getfield 25, 3) := by decide +kernel
theorem dX0_whyNoUse_56 : decode cX0_whyNoUse 56 = .ok (.iload_n 1, 1) := by decide +kernel
theorem dX0_whyNoUse_57 : decode cX0_whyNoUse 57 = .ok (.iaload, 1) := by decide +kernel
theorem dX0_whyNoUse_58 : decode cX0_whyNoUse 58 = .ok (.invokevirtual 130, 3) := by decide +kernel
theorem dX0_whyNoUse_61 : decode cX0_whyNoUse 61 = .ok (.iload_n 2, 1) := by decide +kernel
theorem dX0_whyNoUse_62 : decode cX0_whyNoUse 62 = .ok (.invokestatic 65, 3) := by decide +kernel
theorem dX0_whyNoUse_65 : decode cX0_whyNoUse 65 = .ok (.ifCond .ne 5, 3) := by decide +kernel
theorem dX0_whyNoUse_68 : decode cX0_whyNoUse 68 = .ok (.iconst 4, 1) := by decide +kernel
theorem dX0_whyNoUse_69 : decode cX0_whyNoUse 69 = .ok (.ireturn, 1) := by decide +kernel
theorem dX0_whyNoUse_70 : decode cX0_whyNoUse 70 = .ok (.aload_n 0, 1) := by decide +kernel
theorem dX0_whyNoUse_71 : decode cX0_whyNoUse 71 = .ok (.iload_n 2, 1) := by decide +kernel
theorem dX0_whyNoUse_72 : decode cX0_whyNoUse 72 = .ok (.aload_n 0, 1) := by decide +kernel
theorem dX0_whyNoUse_73 : decode cX0_whyNoUse 73 = .ok (.getfield 19, 3) := by decide +kernel
theorem dX0_whyNoUse_76 : decode cX0_whyNoUse 76 = .ok (.iload_n 1, 1) := by decide +kernel
theorem dX0_whyNoUse_77 : decode cX0_whyNoUse 77 = .ok (.iaload, 1) := by decide +kernel
theorem dX0_whyNoUse_78 : decode cX0_whyNoUse 78 = .ok (.invokevirtual 133, 3) := by decide +kernel
theorem dX0_whyNoUse_81 : decode cX0_whyNoUse 81 = .ok (.ifCond .eq 7, 3) := by decide +kernel
theorem dX0_whyNoUse_84 : decode cX0_whyNoUse 84 = .ok (.iconst 0, 1) := by decide +kernel
theorem dX0_whyNoUse_85 : decode cX0_whyNoUse 85 = .ok (.goto 4, 3) := by decide +kernel
theorem dX0_whyNoUse_88 : decode cX0_whyNoUse 88 = .ok (.iconst 5, 1) := by decide +kernel
theorem dX0_whyNoUse_89 : decode cX0_whyNoUse 89 = .ok (.ireturn, 1) := by decide +kernel
set_option maxRecDepth 20000 in
theorem ggX0_use_X0_whyNoUse : GoodIn wsX0_use wsX0_whyNoUse := goodIn_ca (goodIn_r _ [8, 9, 10, 11, 12, 13, 14, 15, 16, 7, 17, 18, 19, 20, 21, 22, 23, 24, 25, 26, 27, 28, 29, 30, 31, 32, 33, 34, 35, 36, 37, 38, 39, 40, 41, 42, 43, 44, 45, 46, 47, 51, 52, 53, 54, 55, 56, 57, 58, 59, 60, 61, 62, 63, 64, 65, 66] (by decide +kernel) (by decide +kernel)) (goodIn_sub (fun _ h => List.mem_cons_of_mem _ (List.mem_append_right _ h)) (by decide +kernel))
set_option maxRecDepth 20000 in
theorem gX0_use_X0_whyNoUse : GoodIn wsX0_use (wsV RX0 136 RX0 yX0_whyNoUse wsX0_whyNoUse) := goodIn_app (goodIn_of _ (by decide +kernel)) ggX0_use_X0_whyNoUse
set_option maxRecDepth 20000 in
theorem ggX0_use_X0_useIndex : GoodIn wsX0_use wsX0_useIndex := goodIn_r _ [50] (by decide +kernel) (by decide +kernel)
set_option maxRecDepth 20000 in
theorem gX0_use_X0_useIndex : GoodIn wsX0_use (va_wsS RX0 141 yX0_useIndex wsX0_useIndex) := goodIn_app (goodIn_of _ (by decide +kernel)) ggX0_use_X0_useIndex
theorem dX0_use_0 : decode cX0_use 0 = .ok (.aload_n 0, 1) := by decide +kernel
theorem dX0_use_1 : decode cX0_use 1 = .ok (.iload_n 1, 1) := by decide +kernel
theorem dX0_use_2 : decode cX0_use 2 = .ok (.iload_n 2, 1) := by decide +kernel
theorem dX0_use_3 : decode cX0_use 3 = .ok (.invokevirtual 136, 3) := by decide +kernel
theorem dX0_use_6 : decode cX0_use 6 = .ok (.ifCond .eq 13, 3) := by decide +kernel
theorem dX0_use_9 : decode cX0_use 9 = .ok (.new 45, 3) := by decide +kernel
theorem dX0_use_12 : decode cX0_use 12 = .ok (.dup, 1) := by decide +kernel
theorem dX0_use_13 : decode cX0_use 13 = .ok (.ldc 139, 2) := by decide +kernel
theorem dX0_use_15 : decode cX0_use 15 = .ok (.invokespecial 49, 3) := by decide +kernel
theorem dX0_use_18 : decode cX0_use 18 = .ok (.athrow, 1) := by decide +kernel
theorem dX0_use_19 : decode cX0_use 19 = .ok (.iload_n 1, 1) := by decide +kernel
theorem dX0_use_20 : decode cX0_use 20 = .ok (.iload_n 2, 1) := by decide +kernel
theorem dX0_use_21 : decode cX0_use 21 = .ok (.invokestatic 141, 3) := by decide +kernel
theorem dX0_use_24 : decode cX0_use 24 = .ok (.istore_n 3, 1) := by decide +kernel
theorem dX0_use_25 : decode cX0_use 25 = .ok (.aload_n 0, 1) := by decide +kernel
theorem dX0_use_26 : decode cX0_use 26 = .ok (.getfield 31, 3) := by decide +kernel
theorem dX0_use_29 : decode cX0_use 29 = .ok (.iload_n 3, 1) := by decide +kernel
theorem dX0_use_30 : decode cX0_use 30 = .ok (.dup2, 1) := by decide +kernel
theorem dX0_use_31 : decode cX0_use 31 = .ok (.iaload, 1) := by decide +kernel
theorem dX0_use_32 : decode cX0_use 32 = .ok (.iconst 1, 1) := by decide +kernel
theorem dX0_use_33 : decode cX0_use 33 = .ok (.iadd, 1) := by decide +kernel
theorem dX0_use_34 : decode cX0_use 34 = .ok (.iastore, 1) := by decide +kernel
theorem dX0_use_35 : decode cX0_use 35 = .ok (.aload_n 0, 1) := by decide +kernel
theorem dX0_use_36 : decode cX0_use 36 = .ok (.getfield 31, 3) := by decide +kernel
theorem dX0_use_39 : decode cX0_use 39 = .ok (.iload_n 3, 1) := by decide +kernel
theorem dX0_use_40 : decode cX0_use 40 = .ok (.iaload, 1) := by decide +kernel
theorem dX0_use_41 : decode cX0_use 41 = .ok (.ireturn, 1) := by decide +kernel
set_option maxRecDepth 20000 in
theorem ggX0_uses_X0_checkSubject : GoodIn wsX0_uses wsX0_checkSubject := goodIn_ca (goodIn_r _ [8, 9, 10] (by decide +kernel) (by decide +kernel)) (goodIn_sub (fun _ h => List.mem_cons_of_mem _ (List.mem_append_right _ h)) (by decide +kernel))
set_option maxRecDepth 20000 in
theorem gX0_uses_X0_checkSubject : GoodIn wsX0_uses (wsV RX0 62 RX0 yX0_checkSubject wsX0_checkSubject) := goodIn_app (goodIn_of _ (by decide +kernel)) ggX0_uses_X0_checkSubject
set_option maxRecDepth 20000 in
theorem ggX0_uses_X0_checkPurpose : GoodIn wsX0_uses wsX0_checkPurpose := goodIn_ca (goodIn_r _ [14, 9, 10, 15, 25, 26, 27, 28, 29, 30, 31, 32, 33, 34, 35, 36, 37, 38, 39, 40] (by decide +kernel) (by decide +kernel)) (goodIn_sub (fun _ h => List.mem_cons_of_mem _ (List.mem_append_right _ h)) (by decide +kernel))
set_option maxRecDepth 20000 in
theorem gX0_uses_X0_checkPurpose : GoodIn wsX0_uses (wsV RX0 59 RX0 yX0_checkPurpose wsX0_checkPurpose) := goodIn_app (goodIn_of _ (by decide +kernel)) ggX0_uses_X0_checkPurpose
set_option maxRecDepth 20000 in
theorem ggX0_uses_X0_has : GoodIn wsX0_uses wsX0_has := goodIn_r _ [18, 19, 20, 7, 21] (by decide +kernel) (by decide +kernel)
set_option maxRecDepth 20000 in
theorem gX0_uses_X0_has : GoodIn wsX0_uses (va_wsS RX0 65 yX0_has wsX0_has) := goodIn_app (goodIn_of _ (by decide +kernel)) ggX0_uses_X0_has
set_option maxRecDepth 20000 in
theorem ggX0_uses_X0_useIndex : GoodIn wsX0_uses wsX0_useIndex := goodIn_r _ [24] (by decide +kernel) (by decide +kernel)
set_option maxRecDepth 20000 in
theorem gX0_uses_X0_useIndex : GoodIn wsX0_uses (va_wsS RX0 141 yX0_useIndex wsX0_useIndex) := goodIn_app (goodIn_of _ (by decide +kernel)) ggX0_uses_X0_useIndex
theorem dX0_uses_0 : decode cX0_uses 0 = .ok (.aload_n 0, 1) := by decide +kernel
theorem dX0_uses_1 : decode cX0_uses 1 = .ok (.iload_n 1, 1) := by decide +kernel
theorem dX0_uses_2 : decode cX0_uses 2 = .ok (.invokevirtual 62, 3) := by decide +kernel
theorem dX0_uses_5 : decode cX0_uses 5 = .ok (.aload_n 0, 1) := by decide +kernel
theorem dX0_uses_6 : decode cX0_uses 6 = .ok (.iload_n 2, 1) := by decide +kernel
theorem dX0_uses_7 : decode cX0_uses 7 = .ok (.invokevirtual 59, 3) := by decide +kernel
theorem dX0_uses_10 : decode cX0_uses 10 = .ok (.iconst 0, 1) := by decide +kernel
theorem dX0_uses_11 : decode cX0_uses 11 = .ok (.istore_n 3, 1) := by decide +kernel
theorem dX0_uses_12 : decode cX0_uses 12 = .ok (.iconst 0, 1) := by decide +kernel
theorem dX0_uses_13 : decode cX0_uses 13 = .ok (.istore 4, 2) := by decide +kernel
theorem dX0_uses_15 : decode cX0_uses 15 = .ok (.iload 4, 2) := by decide +kernel
theorem dX0_uses_17 : decode cX0_uses 17 = .ok (.aload_n 0, 1) := by decide +kernel
theorem dX0_uses_18 : decode cX0_uses 18 = .ok (.getfield 115, 3) := by decide +kernel
theorem dX0_uses_21 : decode cX0_uses 21 = .ok (.if_icmp .ge 37, 3) := by decide +kernel
theorem dX0_uses_24 : decode cX0_uses 24 = .ok (.aload_n 0, 1) := by decide +kernel
theorem dX0_uses_25 : decode cX0_uses 25 = .ok (.getfield 25, 3) := by decide +kernel
theorem dX0_uses_28 : decode cX0_uses 28 = .ok (.iload 4, 2) := by decide +kernel
theorem dX0_uses_30 : decode cX0_uses 30 = .ok (.iaload, 1) := by decide +kernel
theorem dX0_uses_31 : decode cX0_uses 31 = .ok (.iload_n 1, 1) := by decide +kernel
theorem dX0_uses_32 : decode cX0_uses 32 = .ok (.invokestatic 65, 3) := by decide +kernel
theorem dX0_uses_35 : decode cX0_uses 35 = .ok (.ifCond .eq 17, 3) := by decide +kernel
theorem dX0_uses_38 : decode cX0_uses 38 = .ok (.iload_n 3, 1) := by decide +kernel
theorem dX0_uses_39 : decode cX0_uses 39 = .ok (.aload_n 0, 1) := by decide +kernel
theorem dX0_uses_40 : decode cX0_uses 40 = .ok (.getfield 31, 3) := by decide +kernel
theorem dX0_uses_43 : decode cX0_uses 43 = .ok (.iload 4, 2) := by decide +kernel
theorem dX0_uses_45 : decode cX0_uses 45 = .ok (.iload_n 2, 1) := by decide +kernel
theorem dX0_uses_46 : decode cX0_uses 46 = .ok (.invokestatic 141, 3) := by decide +kernel
theorem dX0_uses_49 : decode cX0_uses 49 = .ok (.iaload, 1) := by decide +kernel
theorem dX0_uses_50 : decode cX0_uses 50 = .ok (.iadd, 1) := by decide +kernel
theorem dX0_uses_51 : decode cX0_uses 51 = .ok (.istore_n 3, 1) := by decide +kernel
theorem dX0_uses_52 : decode cX0_uses 52 = .ok (.iinc 4 1, 3) := by decide +kernel
theorem dX0_uses_55 : decode cX0_uses 55 = .ok (.goto (-40), 3) := by decide +kernel
theorem dX0_uses_58 : decode cX0_uses 58 = .ok (.iload_n 3, 1) := by decide +kernel
theorem dX0_uses_59 : decode cX0_uses 59 = .ok (.ireturn, 1) := by decide +kernel
set_option maxRecDepth 20000 in
theorem ggX0_passDays_X0_countDaysWithConsent : GoodIn wsX0_passDays wsX0_countDaysWithConsent := goodIn_r _ [8, 9, 10, 11, 12, 13, 7, 14, 15, 16, 17, 18, 19, 20, 65, 66, 67, 68, 69, 70, 71, 72, 73, 74, 75, 76, 77, 78, 79, 80] (by decide +kernel) (by decide +kernel)
set_option maxRecDepth 20000 in
theorem gX0_passDays_X0_countDaysWithConsent : GoodIn wsX0_passDays (wsV RX0 146 RX0 yX0_countDaysWithConsent wsX0_countDaysWithConsent) := goodIn_app (goodIn_of _ (by decide +kernel)) ggX0_passDays_X0_countDaysWithConsent
set_option maxRecDepth 20000 in
theorem ggX0_passDays_X0_dueRecords : GoodIn wsX0_passDays wsX0_dueRecords := goodIn_r _ [24, 25, 26, 27, 28, 29, 12, 13, 7, 14, 15, 16, 17, 30, 31, 32, 33, 9, 34, 35, 36, 37, 10, 38, 39, 40, 41, 42, 43, 44, 45, 46, 3, 47, 65, 66, 67, 68, 69, 70, 71, 72, 73, 74, 75, 76, 77, 78, 79, 80] (by decide +kernel) (by decide +kernel)
set_option maxRecDepth 20000 in
theorem gX0_passDays_X0_dueRecords : GoodIn wsX0_passDays (wsV RX0 152 RX0 yX0_dueRecords wsX0_dueRecords) := goodIn_app (goodIn_of _ (by decide +kernel)) ggX0_passDays_X0_dueRecords
set_option maxRecDepth 20000 in
theorem ggX0_passDays_X0_requestWithAllBelow : GoodIn wsX0_passDays wsX0_requestWithAllBelow := goodIn_r _ [51, 26, 52, 53, 54, 55, 7, 56, 25, 57, 15, 16, 17, 58, 59, 60, 61, 62, 63, 64, 65, 66, 67, 68, 69, 70, 71, 72, 73, 74, 75, 76, 77, 78, 79, 80] (by decide +kernel) (by decide +kernel)
set_option maxRecDepth 20000 in
theorem gX0_passDays_X0_requestWithAllBelow : GoodIn wsX0_passDays (wsV RX0 156 RX0 yX0_requestWithAllBelow wsX0_requestWithAllBelow) := goodIn_app (goodIn_of _ (by decide +kernel)) ggX0_passDays_X0_requestWithAllBelow
theorem dX0_passDays_0 : decode cX0_passDays 0 = .ok (.iload_n 1, 1) := by decide +kernel
theorem dX0_passDays_1 : decode cX0_passDays 1 = .ok (.iconst 1, 1) := by decide +kernel
theorem dX0_passDays_2 : decode cX0_passDays 2 = .ok (.if_icmp .lt 10, 3) := by decide +kernel
theorem dX0_passDays_5 : decode cX0_passDays 5 = .ok (.iload_n 1, 1) := by decide +kernel
theorem dX0_passDays_6 : decode cX0_passDays 6 = .ok (.sipush 1000, 3) := by decide +kernel
theorem dX0_passDays_9 : decode cX0_passDays 9 = .ok (.if_icmp .le 13, 3) := by decide +kernel
theorem dX0_passDays_12 : decode cX0_passDays 12 = .ok (.new 88, 3) := by decide +kernel
theorem dX0_passDays_15 : decode cX0_passDays 15 = .ok (.dup, 1) := by decide +kernel
theorem dX0_passDays_16 : decode cX0_passDays 16 = .ok (.ldc 144, 2) := by decide +kernel
theorem dX0_passDays_18 : decode cX0_passDays 18 = .ok (.invokespecial 92, 3) := by decide +kernel
theorem dX0_passDays_21 : decode cX0_passDays 21 = .ok (.athrow, 1) := by decide +kernel
theorem dX0_passDays_22 : decode cX0_passDays 22 = .ok (.aload_n 0, 1) := by decide +kernel
theorem dX0_passDays_23 : decode cX0_passDays 23 = .ok (.iload_n 1, 1) := by decide +kernel
theorem dX0_passDays_24 : decode cX0_passDays 24 = .ok (.invokevirtual 146, 3) := by decide +kernel
theorem dX0_passDays_27 : decode cX0_passDays 27 = .ok (.aload_n 0, 1) := by decide +kernel
theorem dX0_passDays_28 : decode cX0_passDays 28 = .ok (.dup, 1) := by decide +kernel
theorem dX0_passDays_29 : decode cX0_passDays 29 = .ok (.getfield 149, 3) := by decide +kernel
theorem dX0_passDays_32 : decode cX0_passDays 32 = .ok (.iload_n 1, 1) := by decide +kernel
theorem dX0_passDays_33 : decode cX0_passDays 33 = .ok (.iadd, 1) := by decide +kernel
theorem dX0_passDays_34 : decode cX0_passDays 34 = .ok (.putfield 149, 3) := by decide +kernel
theorem dX0_passDays_37 : decode cX0_passDays 37 = .ok (.aload_n 0, 1) := by decide +kernel
theorem dX0_passDays_38 : decode cX0_passDays 38 = .ok (.aload_n 0, 1) := by decide +kernel
theorem dX0_passDays_39 : decode cX0_passDays 39 = .ok (.invokevirtual 152, 3) := by decide +kernel
theorem dX0_passDays_42 : decode cX0_passDays 42 = .ok (.invokevirtual 156, 3) := by decide +kernel
theorem dX0_passDays_45 : decode cX0_passDays 45 = .ok (.ireturn, 1) := by decide +kernel
theorem dX0_day_0 : decode cX0_day 0 = .ok (.aload_n 0, 1) := by decide +kernel
theorem dX0_day_1 : decode cX0_day 1 = .ok (.getfield 149, 3) := by decide +kernel
theorem dX0_day_4 : decode cX0_day 4 = .ok (.ireturn, 1) := by decide +kernel
set_option maxRecDepth 20000 in
theorem ggX0_nextEnd_X0_has : GoodIn wsX0_nextEnd wsX0_has := goodIn_r _ [10, 11, 12, 9, 13] (by decide +kernel) (by decide +kernel)
set_option maxRecDepth 20000 in
theorem gX0_nextEnd_X0_has : GoodIn wsX0_nextEnd (va_wsS RX0 65 yX0_has wsX0_has) := goodIn_app (goodIn_of _ (by decide +kernel)) ggX0_nextEnd_X0_has
set_option maxRecDepth 20000 in
theorem ggX0_nextEnd_X0_endNow : GoodIn wsX0_nextEnd wsX0_endNow := goodIn_r _ [17, 18, 19, 20, 21, 22, 23, 5, 24, 25, 26, 27, 28, 9, 29, 30, 31, 32, 33, 34, 35, 11, 12, 13, 7, 8, 10, 36, 37, 38, 39, 40, 41, 42, 43, 44, 45, 46, 47, 48, 49, 50, 51] (by decide +kernel) (by decide +kernel)
set_option maxRecDepth 20000 in
theorem gX0_nextEnd_X0_endNow : GoodIn wsX0_nextEnd (wsV RX0 127 RX0 yX0_endNow wsX0_endNow) := goodIn_app (goodIn_of _ (by decide +kernel)) ggX0_nextEnd_X0_endNow
theorem dX0_nextEnd_0 : decode cX0_nextEnd 0 = .ok (.iconst (-1), 1) := by decide +kernel
theorem dX0_nextEnd_1 : decode cX0_nextEnd 1 = .ok (.istore_n 1, 1) := by decide +kernel
theorem dX0_nextEnd_2 : decode cX0_nextEnd 2 = .ok (.iconst 0, 1) := by decide +kernel
theorem dX0_nextEnd_3 : decode cX0_nextEnd 3 = .ok (.istore_n 2, 1) := by decide +kernel
theorem dX0_nextEnd_4 : decode cX0_nextEnd 4 = .ok (.iload_n 2, 1) := by decide +kernel
theorem dX0_nextEnd_5 : decode cX0_nextEnd 5 = .ok (.aload_n 0, 1) := by decide +kernel
theorem dX0_nextEnd_6 : decode cX0_nextEnd 6 = .ok (.getfield 115, 3) := by decide +kernel
theorem dX0_nextEnd_9 : decode cX0_nextEnd 9 = .ok (.if_icmp .ge 41, 3) := by decide +kernel
theorem dX0_nextEnd_12 : decode cX0_nextEnd 12 = .ok (.aload_n 0, 1) := by decide +kernel
theorem dX0_nextEnd_13 : decode cX0_nextEnd 13 = .ok (.getfield 83, 3) := by decide +kernel
theorem dX0_nextEnd_16 : decode cX0_nextEnd 16 = .ok (.iload_n 2, 1) := by decide +kernel
theorem dX0_nextEnd_17 : decode cX0_nextEnd 17 = .ok (.invokestatic 65, 3) := by decide +kernel
theorem dX0_nextEnd_20 : decode cX0_nextEnd 20 = .ok (.ifCond .eq 24, 3) := by decide +kernel
theorem dX0_nextEnd_23 : decode cX0_nextEnd 23 = .ok (.aload_n 0, 1) := by decide +kernel
theorem dX0_nextEnd_24 : decode cX0_nextEnd 24 = .ok (.iload_n 2, 1) := by decide +kernel
theorem dX0_nextEnd_25 : decode cX0_nextEnd 25 = .ok (.invokevirtual 127, 3) := by decide +kernel
theorem dX0_nextEnd_28 : decode cX0_nextEnd 28 = .ok (.istore_n 3, 1) := by decide +kernel
theorem dX0_nextEnd_29 : decode cX0_nextEnd 29 = .ok (.iload_n 1, 1) := by decide +kernel
theorem dX0_nextEnd_30 : decode cX0_nextEnd 30 = .ok (.iconst (-1), 1) := by decide +kernel
theorem dX0_nextEnd_31 : decode cX0_nextEnd 31 = .ok (.if_icmp .ne 7, 3) := by decide +kernel
theorem dX0_nextEnd_34 : decode cX0_nextEnd 34 = .ok (.iload_n 3, 1) := by decide +kernel
theorem dX0_nextEnd_35 : decode cX0_nextEnd 35 = .ok (.goto 8, 3) := by decide +kernel
theorem dX0_nextEnd_38 : decode cX0_nextEnd 38 = .ok (.iload_n 1, 1) := by decide +kernel
theorem dX0_nextEnd_39 : decode cX0_nextEnd 39 = .ok (.iload_n 3, 1) := by decide +kernel
theorem dX0_nextEnd_40 : decode cX0_nextEnd 40 = .ok (.invokestatic 159, 3) := by decide +kernel
theorem dX0_nextEnd_43 : decode cX0_nextEnd 43 = .ok (.istore_n 1, 1) := by decide +kernel
theorem dX0_nextEnd_44 : decode cX0_nextEnd 44 = .ok (.iinc 2 1, 3) := by decide +kernel
theorem dX0_nextEnd_47 : decode cX0_nextEnd 47 = .ok (.goto (-43), 3) := by decide +kernel
theorem dX0_nextEnd_50 : decode cX0_nextEnd 50 = .ok (.iload_n 1, 1) := by decide +kernel
theorem dX0_nextEnd_51 : decode cX0_nextEnd 51 = .ok (.ireturn, 1) := by decide +kernel
set_option maxRecDepth 20000 in
theorem ggX0_hold_X0_checkCase : GoodIn wsX0_hold wsX0_checkCase := goodIn_ca (goodIn_r _ [9, 10, 11] (by decide +kernel) (by decide +kernel)) (goodIn_sub (fun _ h => List.mem_cons_of_mem _ (List.mem_append_right _ h)) (by decide +kernel))
set_option maxRecDepth 20000 in
theorem gX0_hold_X0_checkCase : GoodIn wsX0_hold (wsV RX0 164 RX0 yX0_checkCase wsX0_checkCase) := goodIn_app (goodIn_of _ (by decide +kernel)) ggX0_hold_X0_checkCase
set_option maxRecDepth 20000 in
theorem ggX0_hold_X0_checkRecord : GoodIn wsX0_hold wsX0_checkRecord := goodIn_ca (goodIn_r _ [15, 10, 11, 16, 30, 31, 32, 33, 34, 35, 36, 37, 38, 39, 40, 41, 42, 43, 44, 45] (by decide +kernel) (by decide +kernel)) (goodIn_sub (fun _ h => List.mem_cons_of_mem _ (List.mem_append_right _ h)) (by decide +kernel))
set_option maxRecDepth 20000 in
theorem gX0_hold_X0_checkRecord : GoodIn wsX0_hold (wsV RX0 80 RX0 yX0_checkRecord wsX0_checkRecord) := goodIn_app (goodIn_of _ (by decide +kernel)) ggX0_hold_X0_checkRecord
set_option maxRecDepth 20000 in
theorem ggX0_hold_X0_has : GoodIn wsX0_hold wsX0_has := goodIn_r _ [19, 20, 21, 8, 22] (by decide +kernel) (by decide +kernel)
set_option maxRecDepth 20000 in
theorem gX0_hold_X0_has : GoodIn wsX0_hold (va_wsS RX0 65 yX0_has wsX0_has) := goodIn_app (goodIn_of _ (by decide +kernel)) ggX0_hold_X0_has
set_option maxRecDepth 20000 in
theorem ggX0_hold_X0_bit : GoodIn wsX0_hold wsX0_bit := goodIn_r _ [22] (by decide +kernel) (by decide +kernel)
set_option maxRecDepth 20000 in
theorem gX0_hold_X0_bit : GoodIn wsX0_hold (va_wsS RX0 55 yX0_bit wsX0_bit) := goodIn_app (goodIn_of _ (by decide +kernel)) ggX0_hold_X0_bit
set_option maxRecDepth 20000 in
theorem ggX0_hold_J6_bitCount_0f7a4 : GoodIn wsX0_hold wsJ6_bitCount_0f7a4 := goodIn_r _ [26, 27, 28, 29] (by decide +kernel) (by decide +kernel)
set_option maxRecDepth 20000 in
theorem gX0_hold_J6_bitCount_0f7a4 : GoodIn wsX0_hold (va_wsS RX0 110 yJ6_bitCount_0f7a4 wsJ6_bitCount_0f7a4) := goodIn_app (goodIn_of _ (by decide +kernel)) ggX0_hold_J6_bitCount_0f7a4
theorem dX0_hold_0 : decode cX0_hold 0 = .ok (.aload_n 0, 1) := by decide +kernel
theorem dX0_hold_1 : decode cX0_hold 1 = .ok (.iload_n 1, 1) := by decide +kernel
theorem dX0_hold_2 : decode cX0_hold 2 = .ok (.invokevirtual 164, 3) := by decide +kernel
theorem dX0_hold_5 : decode cX0_hold 5 = .ok (.aload_n 0, 1) := by decide +kernel
theorem dX0_hold_6 : decode cX0_hold 6 = .ok (.iload_n 2, 1) := by decide +kernel
theorem dX0_hold_7 : decode cX0_hold 7 = .ok (.invokevirtual 80, 3) := by decide +kernel
theorem dX0_hold_10 : decode cX0_hold 10 = .ok (.aload_n 0, 1) := by decide +kernel
theorem dX0_hold_11 : decode cX0_hold 11 = .ok (.getfield 118, 3) := by decide +kernel
theorem dX0_hold_14 : decode cX0_hold 14 = .ok (.iload_n 2, 1) := by decide +kernel
theorem dX0_hold_15 : decode cX0_hold 15 = .ok (.invokestatic 65, 3) := by decide +kernel
theorem dX0_hold_18 : decode cX0_hold 18 = .ok (.ifCond .eq 13, 3) := by decide +kernel
theorem dX0_hold_21 : decode cX0_hold 21 = .ok (.new 45, 3) := by decide +kernel
theorem dX0_hold_24 : decode cX0_hold 24 = .ok (.dup, 1) := by decide +kernel
theorem dX0_hold_25 : decode cX0_hold 25 = .ok (.ldc 167, 2) := by decide +kernel
theorem dX0_hold_27 : decode cX0_hold 27 = .ok (.invokespecial 49, 3) := by decide +kernel
theorem dX0_hold_30 : decode cX0_hold 30 = .ok (.athrow, 1) := by decide +kernel
theorem dX0_hold_31 : decode cX0_hold 31 = .ok (.aload_n 0, 1) := by decide +kernel
theorem dX0_hold_32 : decode cX0_hold 32 = .ok (.getfield 34, 3) := by decide +kernel
theorem dX0_hold_35 : decode cX0_hold 35 = .ok (.iload_n 1, 1) := by decide +kernel
theorem dX0_hold_36 : decode cX0_hold 36 = .ok (.iaload, 1) := by decide +kernel
theorem dX0_hold_37 : decode cX0_hold 37 = .ok (.iload_n 2, 1) := by decide +kernel
theorem dX0_hold_38 : decode cX0_hold 38 = .ok (.invokestatic 65, 3) := by decide +kernel
theorem dX0_hold_41 : decode cX0_hold 41 = .ok (.ifCond .eq 13, 3) := by decide +kernel
theorem dX0_hold_44 : decode cX0_hold 44 = .ok (.new 45, 3) := by decide +kernel
theorem dX0_hold_47 : decode cX0_hold 47 = .ok (.dup, 1) := by decide +kernel
theorem dX0_hold_48 : decode cX0_hold 48 = .ok (.ldc 169, 2) := by decide +kernel
theorem dX0_hold_50 : decode cX0_hold 50 = .ok (.invokespecial 49, 3) := by decide +kernel
theorem dX0_hold_53 : decode cX0_hold 53 = .ok (.athrow, 1) := by decide +kernel
theorem dX0_hold_54 : decode cX0_hold 54 = .ok (.aload_n 0, 1) := by decide +kernel
theorem dX0_hold_55 : decode cX0_hold 55 = .ok (.getfield 34, 3) := by decide +kernel
theorem dX0_hold_58 : decode cX0_hold 58 = .ok (.iload_n 1, 1) := by decide +kernel
theorem dX0_hold_59 : decode cX0_hold 59 = .ok (.dup2, 1) := by decide +kernel
theorem dX0_hold_60 : decode cX0_hold 60 = .ok (.iaload, 1) := by decide +kernel
theorem dX0_hold_61 : decode cX0_hold 61 = .ok (.iload_n 2, 1) := by decide +kernel
theorem dX0_hold_62 : decode cX0_hold 62 = .ok (.invokestatic 55, 3) := by decide +kernel
theorem dX0_hold_65 : decode cX0_hold 65 = .ok (.ior, 1) := by decide +kernel
theorem dX0_hold_66 : decode cX0_hold 66 = .ok (.iastore, 1) := by decide +kernel
theorem dX0_hold_67 : decode cX0_hold 67 = .ok (.aload_n 0, 1) := by decide +kernel
theorem dX0_hold_68 : decode cX0_hold 68 = .ok (.getfield 34, 3) := by decide +kernel
theorem dX0_hold_71 : decode cX0_hold 71 = .ok (.iload_n 1, 1) := by decide +kernel
theorem dX0_hold_72 : decode cX0_hold 72 = .ok (.iaload, 1) := by decide +kernel
theorem dX0_hold_73 : decode cX0_hold 73 = .ok (.invokestatic 110, 3) := by decide +kernel
theorem dX0_hold_76 : decode cX0_hold 76 = .ok (.ireturn, 1) := by decide +kernel
set_option maxRecDepth 20000 in
theorem ggX0_close_X0_checkCase : GoodIn wsX0_close wsX0_checkCase := goodIn_ca (goodIn_r _ [6, 7, 8] (by decide +kernel) (by decide +kernel)) (goodIn_sub (fun _ h => List.mem_cons_of_mem _ (List.mem_append_right _ h)) (by decide +kernel))
end
section
set_option maxRecDepth 20000 in
theorem gX0_close_X0_checkCase : GoodIn wsX0_close (wsV RX0 164 RX0 yX0_checkCase wsX0_checkCase) := goodIn_app (goodIn_of _ (by decide +kernel)) ggX0_close_X0_checkCase
set_option maxRecDepth 20000 in
theorem ggX0_close_X0_heldRecords : GoodIn wsX0_close wsX0_heldRecords := goodIn_r _ [12, 1, 20, 21, 22, 23, 24, 25, 26, 27, 28, 29, 30, 31, 32, 33, 34, 35] (by decide +kernel) (by decide +kernel)
set_option maxRecDepth 20000 in
theorem gX0_close_X0_heldRecords : GoodIn wsX0_close (wsV RX0 171 RX0 yX0_heldRecords wsX0_heldRecords) := goodIn_app (goodIn_of _ (by decide +kernel)) ggX0_close_X0_heldRecords
set_option maxRecDepth 20000 in
theorem ggX0_close_J6_bitCount_0f7a4 : GoodIn wsX0_close wsJ6_bitCount_0f7a4 := goodIn_r _ [16, 17, 18, 19] (by decide +kernel) (by decide +kernel)
set_option maxRecDepth 20000 in
theorem gX0_close_J6_bitCount_0f7a4 : GoodIn wsX0_close (va_wsS RX0 110 yJ6_bitCount_0f7a4 wsJ6_bitCount_0f7a4) := goodIn_app (goodIn_of _ (by decide +kernel)) ggX0_close_J6_bitCount_0f7a4
theorem dX0_close_0 : decode cX0_close 0 = .ok (.aload_n 0, 1) := by decide +kernel
theorem dX0_close_1 : decode cX0_close 1 = .ok (.iload_n 1, 1) := by decide +kernel
theorem dX0_close_2 : decode cX0_close 2 = .ok (.invokevirtual 164, 3) := by decide +kernel
theorem dX0_close_5 : decode cX0_close 5 = .ok (.aload_n 0, 1) := by decide +kernel
theorem dX0_close_6 : decode cX0_close 6 = .ok (.invokevirtual 171, 3) := by decide +kernel
theorem dX0_close_9 : decode cX0_close 9 = .ok (.istore_n 2, 1) := by decide +kernel
theorem dX0_close_10 : decode cX0_close 10 = .ok (.aload_n 0, 1) := by decide +kernel
theorem dX0_close_11 : decode cX0_close 11 = .ok (.getfield 34, 3) := by decide +kernel
theorem dX0_close_14 : decode cX0_close 14 = .ok (.iload_n 1, 1) := by decide +kernel
theorem dX0_close_15 : decode cX0_close 15 = .ok (.iconst 0, 1) := by decide +kernel
theorem dX0_close_16 : decode cX0_close 16 = .ok (.iastore, 1) := by decide +kernel
theorem dX0_close_17 : decode cX0_close 17 = .ok (.iload_n 2, 1) := by decide +kernel
theorem dX0_close_18 : decode cX0_close 18 = .ok (.aload_n 0, 1) := by decide +kernel
theorem dX0_close_19 : decode cX0_close 19 = .ok (.invokevirtual 171, 3) := by decide +kernel
theorem dX0_close_22 : decode cX0_close 22 = .ok (.iconst (-1), 1) := by decide +kernel
theorem dX0_close_23 : decode cX0_close 23 = .ok (.ixor, 1) := by decide +kernel
theorem dX0_close_24 : decode cX0_close 24 = .ok (.iand, 1) := by decide +kernel
theorem dX0_close_25 : decode cX0_close 25 = .ok (.invokestatic 110, 3) := by decide +kernel
theorem dX0_close_28 : decode cX0_close 28 = .ok (.ireturn, 1) := by decide +kernel
set_option maxRecDepth 20000 in
theorem ggX0_held_X0_heldRecords : GoodIn wsX0_held wsX0_heldRecords := goodIn_r _ [5, 6, 7, 8, 9, 10, 11, 12, 13, 14, 15, 16, 17, 18, 19, 20, 21, 22] (by decide +kernel) (by decide +kernel)
set_option maxRecDepth 20000 in
theorem gX0_held_X0_heldRecords : GoodIn wsX0_held (wsV RX0 171 RX0 yX0_heldRecords wsX0_heldRecords) := goodIn_app (goodIn_of _ (by decide +kernel)) ggX0_held_X0_heldRecords
theorem dX0_held_0 : decode cX0_held 0 = .ok (.aload_n 0, 1) := by decide +kernel
theorem dX0_held_1 : decode cX0_held 1 = .ok (.invokevirtual 171, 3) := by decide +kernel
theorem dX0_held_4 : decode cX0_held 4 = .ok (.ireturn, 1) := by decide +kernel
set_option maxRecDepth 20000 in
theorem ggX0_request_X0_checkSubject : GoodIn wsX0_request wsX0_checkSubject := goodIn_ca (goodIn_r _ [6, 7, 8] (by decide +kernel) (by decide +kernel)) (goodIn_sub (fun _ h => List.mem_cons_of_mem _ (List.mem_append_right _ h)) (by decide +kernel))
set_option maxRecDepth 20000 in
theorem gX0_request_X0_checkSubject : GoodIn wsX0_request (wsV RX0 62 RX0 yX0_checkSubject wsX0_checkSubject) := goodIn_app (goodIn_of _ (by decide +kernel)) ggX0_request_X0_checkSubject
set_option maxRecDepth 20000 in
theorem ggX0_request_X0_recordsOf : GoodIn wsX0_request wsX0_recordsOf := goodIn_r _ [12, 13, 14, 15, 16, 5, 17, 18, 19, 20, 38, 39, 40, 41, 42, 43, 44, 45, 46, 47, 48, 49, 50, 51, 52, 53] (by decide +kernel) (by decide +kernel)
set_option maxRecDepth 20000 in
theorem gX0_request_X0_recordsOf : GoodIn wsX0_request (wsV RX0 174 RX0 yX0_recordsOf wsX0_recordsOf) := goodIn_app (goodIn_of _ (by decide +kernel)) ggX0_request_X0_recordsOf
set_option maxRecDepth 20000 in
theorem ggX0_request_X0_requestWithAllBelow : GoodIn wsX0_request wsX0_requestWithAllBelow := goodIn_r _ [24, 1, 25, 26, 27, 28, 5, 29, 13, 30, 18, 19, 20, 31, 32, 33, 34, 35, 36, 37, 38, 39, 40, 41, 42, 43, 44, 45, 46, 47, 48, 49, 50, 51, 52, 53] (by decide +kernel) (by decide +kernel)
set_option maxRecDepth 20000 in
theorem gX0_request_X0_requestWithAllBelow : GoodIn wsX0_request (wsV RX0 156 RX0 yX0_requestWithAllBelow wsX0_requestWithAllBelow) := goodIn_app (goodIn_of _ (by decide +kernel)) ggX0_request_X0_requestWithAllBelow
theorem dX0_request_0 : decode cX0_request 0 = .ok (.aload_n 0, 1) := by decide +kernel
theorem dX0_request_1 : decode cX0_request 1 = .ok (.iload_n 1, 1) := by decide +kernel
theorem dX0_request_2 : decode cX0_request 2 = .ok (.invokevirtual 62, 3) := by decide +kernel
theorem dX0_request_5 : decode cX0_request 5 = .ok (.aload_n 0, 1) := by decide +kernel
theorem dX0_request_6 : decode cX0_request 6 = .ok (.aload_n 0, 1) := by decide +kernel
theorem dX0_request_7 : decode cX0_request 7 = .ok (.iload_n 1, 1) := by decide +kernel
theorem dX0_request_8 : decode cX0_request 8 = .ok (.invokevirtual 174, 3) := by decide +kernel
theorem dX0_request_11 : decode cX0_request 11 = .ok (.aload_n 0, 1) := by decide +kernel
theorem dX0_request_12 : decode cX0_request 12 = .ok (.getfield 83, 3) := by decide +kernel
theorem dX0_request_15 : decode cX0_request 15 = .ok (.iand, 1) := by decide +kernel
theorem dX0_request_16 : decode cX0_request 16 = .ok (.invokevirtual 156, 3) := by decide +kernel
theorem dX0_request_19 : decode cX0_request 19 = .ok (.ireturn, 1) := by decide +kernel
set_option maxRecDepth 20000 in
theorem ggX0_whyKept_X0_checkRecord : GoodIn wsX0_whyKept wsX0_checkRecord := goodIn_ca (goodIn_r _ [7, 8, 9, 10, 31, 32, 33, 34, 35, 36, 37, 38, 39, 40, 41, 42, 43, 44, 45, 46] (by decide +kernel) (by decide +kernel)) (goodIn_sub (fun _ h => List.mem_cons_of_mem _ (List.mem_append_right _ h)) (by decide +kernel))
set_option maxRecDepth 20000 in
theorem gX0_whyKept_X0_checkRecord : GoodIn wsX0_whyKept (wsV RX0 80 RX0 yX0_checkRecord wsX0_checkRecord) := goodIn_app (goodIn_of _ (by decide +kernel)) ggX0_whyKept_X0_checkRecord
set_option maxRecDepth 20000 in
theorem ggX0_whyKept_X0_has : GoodIn wsX0_whyKept wsX0_has := goodIn_r _ [13, 14, 15, 6, 16] (by decide +kernel) (by decide +kernel)
set_option maxRecDepth 20000 in
theorem gX0_whyKept_X0_has : GoodIn wsX0_whyKept (va_wsS RX0 65 yX0_has wsX0_has) := goodIn_app (goodIn_of _ (by decide +kernel)) ggX0_whyKept_X0_has
set_option maxRecDepth 20000 in
theorem ggX0_whyKept_X0_heldRecords : GoodIn wsX0_whyKept wsX0_heldRecords := goodIn_r _ [20, 21, 31, 32, 33, 34, 35, 36, 37, 38, 39, 40, 41, 42, 43, 44, 45, 46] (by decide +kernel) (by decide +kernel)
set_option maxRecDepth 20000 in
theorem gX0_whyKept_X0_heldRecords : GoodIn wsX0_whyKept (wsV RX0 171 RX0 yX0_heldRecords wsX0_heldRecords) := goodIn_app (goodIn_of _ (by decide +kernel)) ggX0_whyKept_X0_heldRecords
set_option maxRecDepth 20000 in
theorem ggX0_whyKept_X0_allBelow : GoodIn wsX0_whyKept wsX0_allBelow := goodIn_r _ [25, 14, 15, 6, 16, 26, 27, 28, 29, 10, 30, 31, 32, 33, 34, 35, 36, 37, 38, 39, 40, 41, 42, 43, 44, 45, 46] (by decide +kernel) (by decide +kernel)
set_option maxRecDepth 20000 in
theorem gX0_whyKept_X0_allBelow : GoodIn wsX0_whyKept (wsV RX0 124 RX0 yX0_allBelow wsX0_allBelow) := goodIn_app (goodIn_of _ (by decide +kernel)) ggX0_whyKept_X0_allBelow
theorem dX0_whyKept_0 : decode cX0_whyKept 0 = .ok (.aload_n 0, 1) := by decide +kernel
theorem dX0_whyKept_1 : decode cX0_whyKept 1 = .ok (.iload_n 1, 1) := by decide +kernel
theorem dX0_whyKept_2 : decode cX0_whyKept 2 = .ok (.invokevirtual 80, 3) := by decide +kernel
theorem dX0_whyKept_5 : decode cX0_whyKept 5 = .ok (.aload_n 0, 1) := by decide +kernel
theorem dX0_whyKept_6 : decode cX0_whyKept 6 = .ok (.getfield 118, 3) := by decide +kernel
theorem dX0_whyKept_9 : decode cX0_whyKept 9 = .ok (.iload_n 1, 1) := by decide +kernel
theorem dX0_whyKept_10 : decode cX0_whyKept 10 = .ok (.invokestatic 65, 3) := by decide +kernel
theorem dX0_whyKept_13 : decode cX0_whyKept 13 = .ok (.ifCond .eq 5, 3) := by decide +kernel
theorem dX0_whyKept_16 : decode cX0_whyKept 16 = .ok (.iconst 1, 1) := by decide +kernel
theorem dX0_whyKept_17 : decode cX0_whyKept 17 = .ok (.ireturn, 1) := by decide +kernel
theorem dX0_whyKept_18 : decode cX0_whyKept 18 = .ok (.aload_n 0, 1) := by decide +kernel
theorem dX0_whyKept_19 : decode cX0_whyKept 19 = .ok (.getfield 83, 3) := by decide +kernel
theorem dX0_whyKept_22 : decode cX0_whyKept 22 = .ok (.iload_n 1, 1) := by decide +kernel
theorem dX0_whyKept_23 : decode cX0_whyKept 23 = .ok (.invokestatic 65, 3) := by decide +kernel
theorem dX0_whyKept_26 : decode cX0_whyKept 26 = .ok (.ifCond .eq 5, 3) := by decide +kernel
theorem dX0_whyKept_29 : decode cX0_whyKept 29 = .ok (.iconst 2, 1) := by decide +kernel
theorem dX0_whyKept_30 : decode cX0_whyKept 30 = .ok (.ireturn, 1) := by decide +kernel
theorem dX0_whyKept_31 : decode cX0_whyKept 31 = .ok (.aload_n 0, 1) := by decide +kernel
theorem dX0_whyKept_32 : decode cX0_whyKept 32 = .ok (.invokevirtual 171, 3) := by decide +kernel
theorem dX0_whyKept_35 : decode cX0_whyKept 35 = .ok (.iload_n 1, 1) := by decide +kernel
theorem dX0_whyKept_36 : decode cX0_whyKept 36 = .ok (.invokestatic 65, 3) := by decide +kernel
theorem dX0_whyKept_39 : decode cX0_whyKept 39 = .ok (.ifCond .eq 5, 3) := by decide +kernel
theorem dX0_whyKept_42 : decode cX0_whyKept 42 = .ok (.iconst 3, 1) := by decide +kernel
theorem dX0_whyKept_43 : decode cX0_whyKept 43 = .ok (.ireturn, 1) := by decide +kernel
theorem dX0_whyKept_44 : decode cX0_whyKept 44 = .ok (.aload_n 0, 1) := by decide +kernel
theorem dX0_whyKept_45 : decode cX0_whyKept 45 = .ok (.iload_n 1, 1) := by decide +kernel
theorem dX0_whyKept_46 : decode cX0_whyKept 46 = .ok (.invokevirtual 124, 3) := by decide +kernel
theorem dX0_whyKept_49 : decode cX0_whyKept 49 = .ok (.aload_n 0, 1) := by decide +kernel
theorem dX0_whyKept_50 : decode cX0_whyKept 50 = .ok (.getfield 118, 3) := by decide +kernel
theorem dX0_whyKept_53 : decode cX0_whyKept 53 = .ok (.iconst (-1), 1) := by decide +kernel
theorem dX0_whyKept_54 : decode cX0_whyKept 54 = .ok (.ixor, 1) := by decide +kernel
theorem dX0_whyKept_55 : decode cX0_whyKept 55 = .ok (.iand, 1) := by decide +kernel
theorem dX0_whyKept_56 : decode cX0_whyKept 56 = .ok (.ifCond .ne 7, 3) := by decide +kernel
theorem dX0_whyKept_59 : decode cX0_whyKept 59 = .ok (.iconst 0, 1) := by decide +kernel
theorem dX0_whyKept_60 : decode cX0_whyKept 60 = .ok (.goto 4, 3) := by decide +kernel
theorem dX0_whyKept_63 : decode cX0_whyKept 63 = .ok (.iconst 4, 1) := by decide +kernel
theorem dX0_whyKept_64 : decode cX0_whyKept 64 = .ok (.ireturn, 1) := by decide +kernel
set_option maxRecDepth 20000 in
theorem ggX0_erase_X0_whyKept : GoodIn wsX0_erase wsX0_whyKept := goodIn_ca (goodIn_r _ [6, 7, 8, 9, 10, 11, 5, 12, 13, 14, 1, 15, 16, 17, 18, 19, 20, 21, 22, 23, 24, 25, 26, 27, 28, 29, 30, 31, 32, 33, 34, 40, 41, 42, 43, 44, 45, 46, 47, 48, 49, 50, 51, 52, 53, 54, 55] (by decide +kernel) (by decide +kernel)) (goodIn_sub (fun _ h => List.mem_cons_of_mem _ (List.mem_append_right _ h)) (by decide +kernel))
set_option maxRecDepth 20000 in
theorem gX0_erase_X0_whyKept : GoodIn wsX0_erase (wsV RX0 177 RX0 yX0_whyKept wsX0_whyKept) := goodIn_app (goodIn_of _ (by decide +kernel)) ggX0_erase_X0_whyKept
set_option maxRecDepth 20000 in
theorem ggX0_erase_X0_moveToErased : GoodIn wsX0_erase wsX0_moveToErased := goodIn_r _ [38, 39, 7, 18, 19, 5, 20, 40, 41, 42, 43, 44, 45, 46, 47, 48, 49, 50, 51, 52, 53, 54, 55] (by decide +kernel) (by decide +kernel)
set_option maxRecDepth 20000 in
theorem gX0_erase_X0_moveToErased : GoodIn wsX0_erase (wsV RX0 180 RX0 yX0_moveToErased wsX0_moveToErased) := goodIn_app (goodIn_of _ (by decide +kernel)) ggX0_erase_X0_moveToErased
theorem dX0_erase_0 : decode cX0_erase 0 = .ok (.aload_n 0, 1) := by decide +kernel
theorem dX0_erase_1 : decode cX0_erase 1 = .ok (.getfield 115, 3) := by decide +kernel
theorem dX0_erase_4 : decode cX0_erase 4 = .ok (.iconst 1, 1) := by decide +kernel
theorem dX0_erase_5 : decode cX0_erase 5 = .ok (.isub, 1) := by decide +kernel
theorem dX0_erase_6 : decode cX0_erase 6 = .ok (.istore_n 1, 1) := by decide +kernel
theorem dX0_erase_7 : decode cX0_erase 7 = .ok (.iload_n 1, 1) := by decide +kernel
theorem dX0_erase_8 : decode cX0_erase 8 = .ok (.ifCond .lt 24, 3) := by decide +kernel
theorem dX0_erase_11 : decode cX0_erase 11 = .ok (.aload_n 0, 1) := by decide +kernel
theorem dX0_erase_12 : decode cX0_erase 12 = .ok (.iload_n 1, 1) := by decide +kernel
theorem dX0_erase_13 : decode cX0_erase 13 = .ok (.invokevirtual 177, 3) := by decide +kernel
theorem dX0_erase_16 : decode cX0_erase 16 = .ok (.ifCond .ne 10, 3) := by decide +kernel
theorem dX0_erase_19 : decode cX0_erase 19 = .ok (.aload_n 0, 1) := by decide +kernel
theorem dX0_erase_20 : decode cX0_erase 20 = .ok (.iload_n 1, 1) := by decide +kernel
theorem dX0_erase_21 : decode cX0_erase 21 = .ok (.invokevirtual 180, 3) := by decide +kernel
theorem dX0_erase_24 : decode cX0_erase 24 = .ok (.iload_n 1, 1) := by decide +kernel
theorem dX0_erase_25 : decode cX0_erase 25 = .ok (.ireturn, 1) := by decide +kernel
theorem dX0_erase_26 : decode cX0_erase 26 = .ok (.iinc 1 (-1), 3) := by decide +kernel
theorem dX0_erase_29 : decode cX0_erase 29 = .ok (.goto (-22), 3) := by decide +kernel
theorem dX0_erase_32 : decode cX0_erase 32 = .ok (.iconst (-1), 1) := by decide +kernel
theorem dX0_erase_33 : decode cX0_erase 33 = .ok (.ireturn, 1) := by decide +kernel
set_option maxRecDepth 20000 in
theorem ggX0_eraseAll_X0_whyKept : GoodIn wsX0_eraseAll wsX0_whyKept := goodIn_ca (goodIn_r _ [6, 7, 8, 9, 10, 11, 5, 12, 13, 14, 1, 15, 16, 17, 18, 19, 20, 21, 22, 23, 24, 25, 26, 27, 28, 29, 30, 31, 32, 33, 34, 40, 41, 42, 43, 44, 45, 46, 47, 48, 49, 50, 51, 52, 53, 54, 55] (by decide +kernel) (by decide +kernel)) (goodIn_sub (fun _ h => List.mem_cons_of_mem _ (List.mem_append_right _ h)) (by decide +kernel))
set_option maxRecDepth 20000 in
theorem gX0_eraseAll_X0_whyKept : GoodIn wsX0_eraseAll (wsV RX0 177 RX0 yX0_whyKept wsX0_whyKept) := goodIn_app (goodIn_of _ (by decide +kernel)) ggX0_eraseAll_X0_whyKept
set_option maxRecDepth 20000 in
theorem ggX0_eraseAll_X0_moveToErased : GoodIn wsX0_eraseAll wsX0_moveToErased := goodIn_r _ [38, 39, 7, 18, 19, 5, 20, 40, 41, 42, 43, 44, 45, 46, 47, 48, 49, 50, 51, 52, 53, 54, 55] (by decide +kernel) (by decide +kernel)
set_option maxRecDepth 20000 in
theorem gX0_eraseAll_X0_moveToErased : GoodIn wsX0_eraseAll (wsV RX0 180 RX0 yX0_moveToErased wsX0_moveToErased) := goodIn_app (goodIn_of _ (by decide +kernel)) ggX0_eraseAll_X0_moveToErased
theorem dX0_eraseAll_0 : decode cX0_eraseAll 0 = .ok (.iconst 0, 1) := by decide +kernel
theorem dX0_eraseAll_1 : decode cX0_eraseAll 1 = .ok (.istore_n 1, 1) := by decide +kernel
theorem dX0_eraseAll_2 : decode cX0_eraseAll 2 = .ok (.aload_n 0, 1) := by decide +kernel
theorem dX0_eraseAll_3 : decode cX0_eraseAll 3 = .ok (.getfield 115, 3) := by decide +kernel
theorem dX0_eraseAll_6 : decode cX0_eraseAll 6 = .ok (.iconst 1, 1) := by decide +kernel
theorem dX0_eraseAll_7 : decode cX0_eraseAll 7 = .ok (.isub, 1) := by decide +kernel
theorem dX0_eraseAll_8 : decode cX0_eraseAll 8 = .ok (.istore_n 2, 1) := by decide +kernel
theorem dX0_eraseAll_9 : decode cX0_eraseAll 9 = .ok (.iload_n 2, 1) := by decide +kernel
theorem dX0_eraseAll_10 : decode cX0_eraseAll 10 = .ok (.ifCond .lt 25, 3) := by decide +kernel
theorem dX0_eraseAll_13 : decode cX0_eraseAll 13 = .ok (.aload_n 0, 1) := by decide +kernel
theorem dX0_eraseAll_14 : decode cX0_eraseAll 14 = .ok (.iload_n 2, 1) := by decide +kernel
theorem dX0_eraseAll_15 : decode cX0_eraseAll 15 = .ok (.invokevirtual 177, 3) := by decide +kernel
theorem dX0_eraseAll_18 : decode cX0_eraseAll 18 = .ok (.ifCond .ne 11, 3) := by decide +kernel
theorem dX0_eraseAll_21 : decode cX0_eraseAll 21 = .ok (.aload_n 0, 1) := by decide +kernel
theorem dX0_eraseAll_22 : decode cX0_eraseAll 22 = .ok (.iload_n 2, 1) := by decide +kernel
theorem dX0_eraseAll_23 : decode cX0_eraseAll 23 = .ok (.invokevirtual 180, 3) := by decide +kernel
theorem dX0_eraseAll_26 : decode cX0_eraseAll 26 = .ok (.iinc 1 1, 3) := by decide +kernel
theorem dX0_eraseAll_29 : decode cX0_eraseAll 29 = .ok (.iinc 2 (-1), 3) := by decide +kernel
theorem dX0_eraseAll_32 : decode cX0_eraseAll 32 = .ok (.goto (-23), 3) := by decide +kernel
theorem dX0_eraseAll_35 : decode cX0_eraseAll 35 = .ok (.iload_n 1, 1) := by decide +kernel
theorem dX0_eraseAll_36 : decode cX0_eraseAll 36 = .ok (.ireturn, 1) := by decide +kernel
set_option maxRecDepth 20000 in
theorem ggX0_traces_X0_checkSubject : GoodIn wsX0_traces wsX0_checkSubject := goodIn_ca (goodIn_r _ [6, 7, 8] (by decide +kernel) (by decide +kernel)) (goodIn_sub (fun _ h => List.mem_cons_of_mem _ (List.mem_append_right _ h)) (by decide +kernel))
set_option maxRecDepth 20000 in
theorem gX0_traces_X0_checkSubject : GoodIn wsX0_traces (wsV RX0 62 RX0 yX0_checkSubject wsX0_checkSubject) := goodIn_app (goodIn_of _ (by decide +kernel)) ggX0_traces_X0_checkSubject
set_option maxRecDepth 20000 in
theorem ggX0_traces_X0_recordsOf : GoodIn wsX0_traces wsX0_recordsOf := goodIn_r _ [12, 13, 14, 15, 16, 5, 17, 18, 19, 20, 21, 22, 23, 24, 25, 26, 27, 28, 29, 30, 31, 32, 33, 34, 35, 36] (by decide +kernel) (by decide +kernel)
set_option maxRecDepth 20000 in
theorem gX0_traces_X0_recordsOf : GoodIn wsX0_traces (wsV RX0 174 RX0 yX0_recordsOf wsX0_recordsOf) := goodIn_app (goodIn_of _ (by decide +kernel)) ggX0_traces_X0_recordsOf
theorem dX0_traces_0 : decode cX0_traces 0 = .ok (.aload_n 0, 1) := by decide +kernel
theorem dX0_traces_1 : decode cX0_traces 1 = .ok (.iload_n 1, 1) := by decide +kernel
theorem dX0_traces_2 : decode cX0_traces 2 = .ok (.invokevirtual 62, 3) := by decide +kernel
theorem dX0_traces_5 : decode cX0_traces 5 = .ok (.aload_n 0, 1) := by decide +kernel
theorem dX0_traces_6 : decode cX0_traces 6 = .ok (.iload_n 1, 1) := by decide +kernel
theorem dX0_traces_7 : decode cX0_traces 7 = .ok (.invokevirtual 174, 3) := by decide +kernel
theorem dX0_traces_10 : decode cX0_traces 10 = .ok (.aload_n 0, 1) := by decide +kernel
theorem dX0_traces_11 : decode cX0_traces 11 = .ok (.getfield 118, 3) := by decide +kernel
theorem dX0_traces_14 : decode cX0_traces 14 = .ok (.iconst (-1), 1) := by decide +kernel
theorem dX0_traces_15 : decode cX0_traces 15 = .ok (.ixor, 1) := by decide +kernel
theorem dX0_traces_16 : decode cX0_traces 16 = .ok (.iand, 1) := by decide +kernel
theorem dX0_traces_17 : decode cX0_traces 17 = .ok (.ireturn, 1) := by decide +kernel
set_option maxRecDepth 20000 in
theorem ggX0_tracesFromRoots_X0_checkSubject : GoodIn wsX0_tracesFromRoots wsX0_checkSubject := goodIn_ca (goodIn_r _ [6, 7, 8] (by decide +kernel) (by decide +kernel)) (goodIn_sub (fun _ h => List.mem_cons_of_mem _ (List.mem_append_right _ h)) (by decide +kernel))
set_option maxRecDepth 20000 in
theorem gX0_tracesFromRoots_X0_checkSubject : GoodIn wsX0_tracesFromRoots (wsV RX0 62 RX0 yX0_checkSubject wsX0_checkSubject) := goodIn_app (goodIn_of _ (by decide +kernel)) ggX0_tracesFromRoots_X0_checkSubject
set_option maxRecDepth 20000 in
theorem ggX0_tracesFromRoots_X0_rootsOf : GoodIn wsX0_tracesFromRoots wsX0_rootsOf := goodIn_r _ [12, 13, 14, 15, 16, 17, 5, 18, 19, 20, 21, 22, 23, 24, 25, 30, 31, 32, 33, 34, 35, 36, 37, 38, 39, 40, 41, 42, 43, 44, 45] (by decide +kernel) (by decide +kernel)
set_option maxRecDepth 20000 in
theorem gX0_tracesFromRoots_X0_rootsOf : GoodIn wsX0_tracesFromRoots (wsV RX0 183 RX0 yX0_rootsOf wsX0_rootsOf) := goodIn_app (goodIn_of _ (by decide +kernel)) ggX0_tracesFromRoots_X0_rootsOf
set_option maxRecDepth 20000 in
theorem ggX0_tracesFromRoots_X0_withAllBelow : GoodIn wsX0_tracesFromRoots wsX0_withAllBelow := goodIn_r _ [29, 13, 19, 23, 24, 5, 25, 30, 31, 32, 33, 34, 35, 36, 37, 38, 39, 40, 41, 42, 43, 44, 45] (by decide +kernel) (by decide +kernel)
set_option maxRecDepth 20000 in
theorem gX0_tracesFromRoots_X0_withAllBelow : GoodIn wsX0_tracesFromRoots (wsV RX0 103 RX0 yX0_withAllBelow wsX0_withAllBelow) := goodIn_app (goodIn_of _ (by decide +kernel)) ggX0_tracesFromRoots_X0_withAllBelow
theorem dX0_tracesFromRoots_0 : decode cX0_tracesFromRoots 0 = .ok (.aload_n 0, 1) := by decide +kernel
theorem dX0_tracesFromRoots_1 : decode cX0_tracesFromRoots 1 = .ok (.iload_n 1, 1) := by decide +kernel
theorem dX0_tracesFromRoots_2 : decode cX0_tracesFromRoots 2 = .ok (.invokevirtual 62, 3) := by decide +kernel
theorem dX0_tracesFromRoots_5 : decode cX0_tracesFromRoots 5 = .ok (.aload_n 0, 1) := by decide +kernel
theorem dX0_tracesFromRoots_6 : decode cX0_tracesFromRoots 6 = .ok (.aload_n 0, 1) := by decide +kernel
theorem dX0_tracesFromRoots_7 : decode cX0_tracesFromRoots 7 = .ok (.iload_n 1, 1) := by decide +kernel
theorem dX0_tracesFromRoots_8 : decode cX0_tracesFromRoots 8 = .ok (.invokevirtual 183, 3) := by decide +kernel
theorem dX0_tracesFromRoots_11 : decode cX0_tracesFromRoots 11 = .ok (.invokevirtual 103, 3) := by decide +kernel
theorem dX0_tracesFromRoots_14 : decode cX0_tracesFromRoots 14 = .ok (.aload_n 0, 1) := by decide +kernel
theorem dX0_tracesFromRoots_15 : decode cX0_tracesFromRoots 15 = .ok (.getfield 118, 3) := by decide +kernel
theorem dX0_tracesFromRoots_18 : decode cX0_tracesFromRoots 18 = .ok (.iconst (-1), 1) := by decide +kernel
theorem dX0_tracesFromRoots_19 : decode cX0_tracesFromRoots 19 = .ok (.ixor, 1) := by decide +kernel
theorem dX0_tracesFromRoots_20 : decode cX0_tracesFromRoots 20 = .ok (.iand, 1) := by decide +kernel
theorem dX0_tracesFromRoots_21 : decode cX0_tracesFromRoots 21 = .ok (.ireturn, 1) := by decide +kernel
set_option maxRecDepth 20000 in
theorem ggX0_due_X0_dueRecords : GoodIn wsX0_due wsX0_dueRecords := goodIn_r _ [5, 6, 7, 8, 9, 10, 11, 12, 4, 13, 14, 15, 16, 17, 18, 19, 20, 21, 22, 23, 24, 25, 26, 27, 28, 29, 30, 31, 32, 33, 34, 35, 36, 37, 38, 39, 40, 41, 42, 43, 44, 45, 46, 47, 48, 49, 50, 51, 52, 53] (by decide +kernel) (by decide +kernel)
set_option maxRecDepth 20000 in
theorem gX0_due_X0_dueRecords : GoodIn wsX0_due (wsV RX0 152 RX0 yX0_dueRecords wsX0_dueRecords) := goodIn_app (goodIn_of _ (by decide +kernel)) ggX0_due_X0_dueRecords
theorem dX0_due_0 : decode cX0_due 0 = .ok (.aload_n 0, 1) := by decide +kernel
theorem dX0_due_1 : decode cX0_due 1 = .ok (.invokevirtual 152, 3) := by decide +kernel
theorem dX0_due_4 : decode cX0_due 4 = .ok (.ireturn, 1) := by decide +kernel
theorem dX0_checkSubject_0 : decode cX0_checkSubject 0 = .ok (.iload_n 1, 1) := by decide +kernel
theorem dX0_checkSubject_1 : decode cX0_checkSubject 1 = .ok (.ifCond .lt 9, 3) := by decide +kernel
theorem dX0_checkSubject_4 : decode cX0_checkSubject 4 = .ok (.iload_n 1, 1) := by decide +kernel
theorem dX0_checkSubject_5 : decode cX0_checkSubject 5 = .ok (.bipush 12, 2) := by decide +kernel
theorem dX0_checkSubject_7 : decode cX0_checkSubject 7 = .ok (.if_icmp .lt 13, 3) := by decide +kernel
theorem dX0_checkSubject_10 : decode cX0_checkSubject 10 = .ok (.new 186, 3) := by decide +kernel
theorem dX0_checkSubject_13 : decode cX0_checkSubject 13 = .ok (.dup, 1) := by decide +kernel
theorem dX0_checkSubject_14 : decode cX0_checkSubject 14 = .ok (.ldc 188, 2) := by decide +kernel
theorem dX0_checkSubject_16 : decode cX0_checkSubject 16 = .ok (.invokespecial 190, 3) := by decide +kernel
theorem dX0_checkSubject_19 : decode cX0_checkSubject 19 = .ok (.athrow, 1) := by decide +kernel
theorem dX0_checkSubject_20 : decode cX0_checkSubject 20 = .ok (.return_, 1) := by decide +kernel
theorem dX0_checkPurpose_0 : decode cX0_checkPurpose 0 = .ok (.iload_n 1, 1) := by decide +kernel
theorem dX0_checkPurpose_1 : decode cX0_checkPurpose 1 = .ok (.ifCond .lt 11, 3) := by decide +kernel
theorem dX0_checkPurpose_4 : decode cX0_checkPurpose 4 = .ok (.iload_n 1, 1) := by decide +kernel
theorem dX0_checkPurpose_5 : decode cX0_checkPurpose 5 = .ok (.aload_n 0, 1) := by decide +kernel
theorem dX0_checkPurpose_6 : decode cX0_checkPurpose 6 = .ok (.getfield 41, 3) := by decide +kernel
theorem dX0_checkPurpose_9 : decode cX0_checkPurpose 9 = .ok (.if_icmp .lt 13, 3) := by decide +kernel
theorem dX0_checkPurpose_12 : decode cX0_checkPurpose 12 = .ok (.new 186, 3) := by decide +kernel
theorem dX0_checkPurpose_15 : decode cX0_checkPurpose 15 = .ok (.dup, 1) := by decide +kernel
theorem dX0_checkPurpose_16 : decode cX0_checkPurpose 16 = .ok (.ldc 191, 2) := by decide +kernel
theorem dX0_checkPurpose_18 : decode cX0_checkPurpose 18 = .ok (.invokespecial 190, 3) := by decide +kernel
theorem dX0_checkPurpose_21 : decode cX0_checkPurpose 21 = .ok (.athrow, 1) := by decide +kernel
theorem dX0_checkPurpose_22 : decode cX0_checkPurpose 22 = .ok (.return_, 1) := by decide +kernel
set_option maxRecDepth 20000 in
theorem ggX0_checkPurposes_X0_allPurposes : GoodIn wsX0_checkPurposes wsX0_allPurposes := goodIn_r _ [9, 10, 11, 12, 8, 13, 14, 15, 16, 17, 18, 19, 20, 21, 22, 23, 24, 25, 26, 27, 28, 29] (by decide +kernel) (by decide +kernel)
set_option maxRecDepth 20000 in
theorem gX0_checkPurposes_X0_allPurposes : GoodIn wsX0_checkPurposes (wsV RX0 193 RX0 yX0_allPurposes wsX0_allPurposes) := goodIn_app (goodIn_of _ (by decide +kernel)) ggX0_checkPurposes_X0_allPurposes
theorem dX0_checkPurposes_0 : decode cX0_checkPurposes 0 = .ok (.iload_n 1, 1) := by decide +kernel
theorem dX0_checkPurposes_1 : decode cX0_checkPurposes 1 = .ok (.aload_n 0, 1) := by decide +kernel
theorem dX0_checkPurposes_2 : decode cX0_checkPurposes 2 = .ok (.invokevirtual 193, 3) := by decide +kernel
theorem dX0_checkPurposes_5 : decode cX0_checkPurposes 5 = .ok (.iconst (-1), 1) := by decide +kernel
theorem dX0_checkPurposes_6 : decode cX0_checkPurposes 6 = .ok (.ixor, 1) := by decide +kernel
theorem dX0_checkPurposes_7 : decode cX0_checkPurposes 7 = .ok (.iand, 1) := by decide +kernel
theorem dX0_checkPurposes_8 : decode cX0_checkPurposes 8 = .ok (.ifCond .eq 13, 3) := by decide +kernel
theorem dX0_checkPurposes_11 : decode cX0_checkPurposes 11 = .ok (.new 186, 3) := by decide +kernel
theorem dX0_checkPurposes_14 : decode cX0_checkPurposes 14 = .ok (.dup, 1) := by decide +kernel
theorem dX0_checkPurposes_15 : decode cX0_checkPurposes 15 = .ok (.ldc 196, 2) := by decide +kernel
theorem dX0_checkPurposes_17 : decode cX0_checkPurposes 17 = .ok (.invokespecial 190, 3) := by decide +kernel
theorem dX0_checkPurposes_20 : decode cX0_checkPurposes 20 = .ok (.athrow, 1) := by decide +kernel
theorem dX0_checkPurposes_21 : decode cX0_checkPurposes 21 = .ok (.iload_n 1, 1) := by decide +kernel
theorem dX0_checkPurposes_22 : decode cX0_checkPurposes 22 = .ok (.ifCond .ne 13, 3) := by decide +kernel
theorem dX0_checkPurposes_25 : decode cX0_checkPurposes 25 = .ok (.new 88, 3) := by decide +kernel
theorem dX0_checkPurposes_28 : decode cX0_checkPurposes 28 = .ok (.dup, 1) := by decide +kernel
theorem dX0_checkPurposes_29 : decode cX0_checkPurposes 29 = .ok (.ldc 198, 2) := by decide +kernel
theorem dX0_checkPurposes_31 : decode cX0_checkPurposes 31 = .ok (.invokespecial 92, 3) := by decide +kernel
theorem dX0_checkPurposes_34 : decode cX0_checkPurposes 34 = .ok (.athrow, 1) := by decide +kernel
theorem dX0_checkPurposes_35 : decode cX0_checkPurposes 35 = .ok (.return_, 1) := by decide +kernel
theorem dX0_checkRetention_0 : decode cX0_checkRetention 0 = .ok (.iload_n 1, 1) := by decide +kernel
theorem dX0_checkRetention_1 : decode cX0_checkRetention 1 = .ok (.ifCond .lt 10, 3) := by decide +kernel
theorem dX0_checkRetention_4 : decode cX0_checkRetention 4 = .ok (.iload_n 1, 1) := by decide +kernel
theorem dX0_checkRetention_5 : decode cX0_checkRetention 5 = .ok (.sipush 3650, 3) := by decide +kernel
theorem dX0_checkRetention_8 : decode cX0_checkRetention 8 = .ok (.if_icmp .le 13, 3) := by decide +kernel
theorem dX0_checkRetention_11 : decode cX0_checkRetention 11 = .ok (.new 88, 3) := by decide +kernel
theorem dX0_checkRetention_14 : decode cX0_checkRetention 14 = .ok (.dup, 1) := by decide +kernel
theorem dX0_checkRetention_15 : decode cX0_checkRetention 15 = .ok (.ldc 200, 2) := by decide +kernel
theorem dX0_checkRetention_17 : decode cX0_checkRetention 17 = .ok (.invokespecial 92, 3) := by decide +kernel
theorem dX0_checkRetention_20 : decode cX0_checkRetention 20 = .ok (.athrow, 1) := by decide +kernel
theorem dX0_checkRetention_21 : decode cX0_checkRetention 21 = .ok (.return_, 1) := by decide +kernel
theorem dX0_checkRecord_0 : decode cX0_checkRecord 0 = .ok (.iload_n 1, 1) := by decide +kernel
theorem dX0_checkRecord_1 : decode cX0_checkRecord 1 = .ok (.ifCond .lt 11, 3) := by decide +kernel
theorem dX0_checkRecord_4 : decode cX0_checkRecord 4 = .ok (.iload_n 1, 1) := by decide +kernel
theorem dX0_checkRecord_5 : decode cX0_checkRecord 5 = .ok (.aload_n 0, 1) := by decide +kernel
theorem dX0_checkRecord_6 : decode cX0_checkRecord 6 = .ok (.getfield 115, 3) := by decide +kernel
theorem dX0_checkRecord_9 : decode cX0_checkRecord 9 = .ok (.if_icmp .lt 13, 3) := by decide +kernel
theorem dX0_checkRecord_12 : decode cX0_checkRecord 12 = .ok (.new 186, 3) := by decide +kernel
theorem dX0_checkRecord_15 : decode cX0_checkRecord 15 = .ok (.dup, 1) := by decide +kernel
theorem dX0_checkRecord_16 : decode cX0_checkRecord 16 = .ok (.ldc 202, 2) := by decide +kernel
theorem dX0_checkRecord_18 : decode cX0_checkRecord 18 = .ok (.invokespecial 190, 3) := by decide +kernel
theorem dX0_checkRecord_21 : decode cX0_checkRecord 21 = .ok (.athrow, 1) := by decide +kernel
theorem dX0_checkRecord_22 : decode cX0_checkRecord 22 = .ok (.return_, 1) := by decide +kernel
theorem dX0_checkCase_0 : decode cX0_checkCase 0 = .ok (.iload_n 1, 1) := by decide +kernel
theorem dX0_checkCase_1 : decode cX0_checkCase 1 = .ok (.ifCond .lt 9, 3) := by decide +kernel
theorem dX0_checkCase_4 : decode cX0_checkCase 4 = .ok (.iload_n 1, 1) := by decide +kernel
theorem dX0_checkCase_5 : decode cX0_checkCase 5 = .ok (.bipush 6, 2) := by decide +kernel
theorem dX0_checkCase_7 : decode cX0_checkCase 7 = .ok (.if_icmp .lt 13, 3) := by decide +kernel
theorem dX0_checkCase_10 : decode cX0_checkCase 10 = .ok (.new 186, 3) := by decide +kernel
theorem dX0_checkCase_13 : decode cX0_checkCase 13 = .ok (.dup, 1) := by decide +kernel
theorem dX0_checkCase_14 : decode cX0_checkCase 14 = .ok (.ldc 204, 2) := by decide +kernel
theorem dX0_checkCase_16 : decode cX0_checkCase 16 = .ok (.invokespecial 190, 3) := by decide +kernel
theorem dX0_checkCase_19 : decode cX0_checkCase 19 = .ok (.athrow, 1) := by decide +kernel
theorem dX0_checkCase_20 : decode cX0_checkCase 20 = .ok (.return_, 1) := by decide +kernel
theorem dX0_bit_0 : decode cX0_bit 0 = .ok (.iconst 1, 1) := by decide +kernel
theorem dX0_bit_1 : decode cX0_bit 1 = .ok (.iload_n 0, 1) := by decide +kernel
theorem dX0_bit_2 : decode cX0_bit 2 = .ok (.ishl, 1) := by decide +kernel
theorem dX0_bit_3 : decode cX0_bit 3 = .ok (.ireturn, 1) := by decide +kernel
set_option maxRecDepth 20000 in
theorem ggX0_has_X0_bit : GoodIn wsX0_has wsX0_bit := goodIn_r _ [4] (by decide +kernel) (by decide +kernel)
set_option maxRecDepth 20000 in
theorem gX0_has_X0_bit : GoodIn wsX0_has (va_wsS RX0 55 yX0_bit wsX0_bit) := goodIn_app (goodIn_of _ (by decide +kernel)) ggX0_has_X0_bit
theorem dX0_has_0 : decode cX0_has 0 = .ok (.iload_n 0, 1) := by decide +kernel
theorem dX0_has_1 : decode cX0_has 1 = .ok (.iload_n 1, 1) := by decide +kernel
theorem dX0_has_2 : decode cX0_has 2 = .ok (.invokestatic 55, 3) := by decide +kernel
theorem dX0_has_5 : decode cX0_has 5 = .ok (.iand, 1) := by decide +kernel
theorem dX0_has_6 : decode cX0_has 6 = .ok (.ifCond .eq 7, 3) := by decide +kernel
theorem dX0_has_9 : decode cX0_has 9 = .ok (.iconst 1, 1) := by decide +kernel
theorem dX0_has_10 : decode cX0_has 10 = .ok (.goto 4, 3) := by decide +kernel
theorem dX0_has_13 : decode cX0_has 13 = .ok (.iconst 0, 1) := by decide +kernel
theorem dX0_has_14 : decode cX0_has 14 = .ok (.ireturn, 1) := by decide +kernel
set_option maxRecDepth 20000 in
theorem ggX0_allPurposes_X0_bit : GoodIn wsX0_allPurposes wsX0_bit := goodIn_r _ [5] (by decide +kernel) (by decide +kernel)
set_option maxRecDepth 20000 in
theorem gX0_allPurposes_X0_bit : GoodIn wsX0_allPurposes (va_wsS RX0 55 yX0_bit wsX0_bit) := goodIn_app (goodIn_of _ (by decide +kernel)) ggX0_allPurposes_X0_bit
theorem dX0_allPurposes_0 : decode cX0_allPurposes 0 = .ok (.aload_n 0, 1) := by decide +kernel
theorem dX0_allPurposes_1 : decode cX0_allPurposes 1 = .ok (.getfield 41, 3) := by decide +kernel
theorem dX0_allPurposes_4 : decode cX0_allPurposes 4 = .ok (.invokestatic 55, 3) := by decide +kernel
theorem dX0_allPurposes_7 : decode cX0_allPurposes 7 = .ok (.iconst 1, 1) := by decide +kernel
theorem dX0_allPurposes_8 : decode cX0_allPurposes 8 = .ok (.isub, 1) := by decide +kernel
theorem dX0_allPurposes_9 : decode cX0_allPurposes 9 = .ok (.ireturn, 1) := by decide +kernel
theorem dX0_consentIndex_0 : decode cX0_consentIndex 0 = .ok (.iload_n 0, 1) := by decide +kernel
theorem dX0_consentIndex_1 : decode cX0_consentIndex 1 = .ok (.bipush 8, 2) := by decide +kernel
theorem dX0_consentIndex_3 : decode cX0_consentIndex 3 = .ok (.imul, 1) := by decide +kernel
theorem dX0_consentIndex_4 : decode cX0_consentIndex 4 = .ok (.iload_n 1, 1) := by decide +kernel
theorem dX0_consentIndex_5 : decode cX0_consentIndex 5 = .ok (.iadd, 1) := by decide +kernel
theorem dX0_consentIndex_6 : decode cX0_consentIndex 6 = .ok (.ireturn, 1) := by decide +kernel
theorem dX0_useIndex_0 : decode cX0_useIndex 0 = .ok (.iload_n 0, 1) := by decide +kernel
theorem dX0_useIndex_1 : decode cX0_useIndex 1 = .ok (.bipush 8, 2) := by decide +kernel
theorem dX0_useIndex_3 : decode cX0_useIndex 3 = .ok (.imul, 1) := by decide +kernel
theorem dX0_useIndex_4 : decode cX0_useIndex 4 = .ok (.iload_n 1, 1) := by decide +kernel
theorem dX0_useIndex_5 : decode cX0_useIndex 5 = .ok (.iadd, 1) := by decide +kernel
theorem dX0_useIndex_6 : decode cX0_useIndex 6 = .ok (.ireturn, 1) := by decide +kernel
set_option maxRecDepth 20000 in
theorem ggX0_addRecord_X0_isAnyOpen : GoodIn wsX0_addRecord wsX0_isAnyOpen := goodIn_r _ [14, 15, 16, 17, 18, 13, 19, 20, 21, 22, 23, 24, 25, 26, 27, 28, 29, 30, 31, 32, 33, 34, 35, 4, 36, 37, 38, 39, 40, 41, 42, 43, 44, 45, 46, 47, 48, 49, 50, 51, 52] (by decide +kernel) (by decide +kernel)
set_option maxRecDepth 20000 in
theorem gX0_addRecord_X0_isAnyOpen : GoodIn wsX0_addRecord (wsV RX0 208 RX0 yX0_isAnyOpen wsX0_isAnyOpen) := goodIn_app (goodIn_of _ (by decide +kernel)) ggX0_addRecord_X0_isAnyOpen
set_option maxRecDepth 20000 in
theorem ggX0_addRecord_X0_bit : GoodIn wsX0_addRecord wsX0_bit := goodIn_r _ [28] (by decide +kernel) (by decide +kernel)
set_option maxRecDepth 20000 in
theorem gX0_addRecord_X0_bit : GoodIn wsX0_addRecord (va_wsS RX0 55 yX0_bit wsX0_bit) := goodIn_app (goodIn_of _ (by decide +kernel)) ggX0_addRecord_X0_bit
theorem dX0_addRecord_0 : decode cX0_addRecord 0 = .ok (.aload_n 0, 1) := by decide +kernel
theorem dX0_addRecord_1 : decode cX0_addRecord 1 = .ok (.getfield 115, 3) := by decide +kernel
theorem dX0_addRecord_4 : decode cX0_addRecord 4 = .ok (.bipush 30, 2) := by decide +kernel
theorem dX0_addRecord_6 : decode cX0_addRecord 6 = .ok (.if_icmp .lt 13, 3) := by decide +kernel
theorem dX0_addRecord_9 : decode cX0_addRecord 9 = .ok (.new 45, 3) := by decide +kernel
theorem dX0_addRecord_12 : decode cX0_addRecord 12 = .ok (.dup, 1) := by decide +kernel
theorem dX0_addRecord_13 : decode cX0_addRecord 13 = .ok (.ldc 206, 2) := by decide +kernel
theorem dX0_addRecord_15 : decode cX0_addRecord 15 = .ok (.invokespecial 49, 3) := by decide +kernel
theorem dX0_addRecord_18 : decode cX0_addRecord 18 = .ok (.athrow, 1) := by decide +kernel
theorem dX0_addRecord_19 : decode cX0_addRecord 19 = .ok (.aload_n 0, 1) := by decide +kernel
theorem dX0_addRecord_20 : decode cX0_addRecord 20 = .ok (.iload_n 2, 1) := by decide +kernel
theorem dX0_addRecord_21 : decode cX0_addRecord 21 = .ok (.iload_n 1, 1) := by decide +kernel
theorem dX0_addRecord_22 : decode cX0_addRecord 22 = .ok (.aload_n 0, 1) := by decide +kernel
theorem dX0_addRecord_23 : decode cX0_addRecord 23 = .ok (.getfield 149, 3) := by decide +kernel
theorem dX0_addRecord_26 : decode cX0_addRecord 26 = .ok (.invokevirtual 208, 3) := by decide +kernel
theorem dX0_addRecord_29 : decode cX0_addRecord 29 = .ok (.ifCond .ne 13, 3) := by decide +kernel
theorem dX0_addRecord_32 : decode cX0_addRecord 32 = .ok (.new 45, 3) := by decide +kernel
theorem dX0_addRecord_35 : decode cX0_addRecord 35 = .ok (.dup, 1) := by decide +kernel
theorem dX0_addRecord_36 : decode cX0_addRecord 36 = .ok (.ldc 212, 2) := by decide +kernel
theorem dX0_addRecord_38 : decode cX0_addRecord 38 = .ok (.invokespecial 49, 3) := by decide +kernel
theorem dX0_addRecord_41 : decode cX0_addRecord 41 = .ok (.athrow, 1) := by decide +kernel
theorem dX0_addRecord_42 : decode cX0_addRecord 42 = .ok (.aload_n 0, 1) := by decide +kernel
theorem dX0_addRecord_43 : decode cX0_addRecord 43 = .ok (.getfield 115, 3) := by decide +kernel
theorem dX0_addRecord_46 : decode cX0_addRecord 46 = .ok (.istore 4, 2) := by decide +kernel
theorem dX0_addRecord_48 : decode cX0_addRecord 48 = .ok (.aload_n 0, 1) := by decide +kernel
theorem dX0_addRecord_49 : decode cX0_addRecord 49 = .ok (.getfield 19, 3) := by decide +kernel
theorem dX0_addRecord_52 : decode cX0_addRecord 52 = .ok (.iload 4, 2) := by decide +kernel
theorem dX0_addRecord_54 : decode cX0_addRecord 54 = .ok (.aload_n 0, 1) := by decide +kernel
theorem dX0_addRecord_55 : decode cX0_addRecord 55 = .ok (.getfield 149, 3) := by decide +kernel
theorem dX0_addRecord_58 : decode cX0_addRecord 58 = .ok (.iastore, 1) := by decide +kernel
theorem dX0_addRecord_59 : decode cX0_addRecord 59 = .ok (.aload_n 0, 1) := by decide +kernel
theorem dX0_addRecord_60 : decode cX0_addRecord 60 = .ok (.getfield 22, 3) := by decide +kernel
theorem dX0_addRecord_63 : decode cX0_addRecord 63 = .ok (.iload 4, 2) := by decide +kernel
theorem dX0_addRecord_65 : decode cX0_addRecord 65 = .ok (.iload_n 2, 1) := by decide +kernel
theorem dX0_addRecord_66 : decode cX0_addRecord 66 = .ok (.iastore, 1) := by decide +kernel
theorem dX0_addRecord_67 : decode cX0_addRecord 67 = .ok (.aload_n 0, 1) := by decide +kernel
theorem dX0_addRecord_68 : decode cX0_addRecord 68 = .ok (.getfield 25, 3) := by decide +kernel
theorem dX0_addRecord_71 : decode cX0_addRecord 71 = .ok (.iload 4, 2) := by decide +kernel
theorem dX0_addRecord_73 : decode cX0_addRecord 73 = .ok (.iload_n 1, 1) := by decide +kernel
theorem dX0_addRecord_74 : decode cX0_addRecord 74 = .ok (.iastore, 1) := by decide +kernel
theorem dX0_addRecord_75 : decode cX0_addRecord 75 = .ok (.aload_n 0, 1) := by decide +kernel
theorem dX0_addRecord_76 : decode cX0_addRecord 76 = .ok (.getfield 28, 3) := by decide +kernel
theorem dX0_addRecord_79 : decode cX0_addRecord 79 = .ok (.iload 4, 2) := by decide +kernel
theorem dX0_addRecord_81 : decode cX0_addRecord 81 = .ok (.iload_n 3, 1) := by decide +kernel
theorem dX0_addRecord_82 : decode cX0_addRecord 82 = .ok (.iastore, 1) := by decide +kernel
theorem dX0_addRecord_83 : decode cX0_addRecord 83 = .ok (.aload_n 0, 1) := by decide +kernel
theorem dX0_addRecord_84 : decode cX0_addRecord 84 = .ok (.dup, 1) := by decide +kernel
theorem dX0_addRecord_85 : decode cX0_addRecord 85 = .ok (.getfield 83, 3) := by decide +kernel
theorem dX0_addRecord_88 : decode cX0_addRecord 88 = .ok (.iload 4, 2) := by decide +kernel
theorem dX0_addRecord_90 : decode cX0_addRecord 90 = .ok (.invokestatic 55, 3) := by decide +kernel
theorem dX0_addRecord_93 : decode cX0_addRecord 93 = .ok (.ior, 1) := by decide +kernel
theorem dX0_addRecord_94 : decode cX0_addRecord 94 = .ok (.putfield 83, 3) := by decide +kernel
theorem dX0_addRecord_97 : decode cX0_addRecord 97 = .ok (.aload_n 0, 1) := by decide +kernel
theorem dX0_addRecord_98 : decode cX0_addRecord 98 = .ok (.dup, 1) := by decide +kernel
theorem dX0_addRecord_99 : decode cX0_addRecord 99 = .ok (.getfield 115, 3) := by decide +kernel
theorem dX0_addRecord_102 : decode cX0_addRecord 102 = .ok (.iconst 1, 1) := by decide +kernel
theorem dX0_addRecord_103 : decode cX0_addRecord 103 = .ok (.iadd, 1) := by decide +kernel
theorem dX0_addRecord_104 : decode cX0_addRecord 104 = .ok (.putfield 115, 3) := by decide +kernel
theorem dX0_addRecord_107 : decode cX0_addRecord 107 = .ok (.iload 4, 2) := by decide +kernel
theorem dX0_addRecord_109 : decode cX0_addRecord 109 = .ok (.ireturn, 1) := by decide +kernel
set_option maxRecDepth 20000 in
theorem ggX0_addSubjects_X0_has : GoodIn wsX0_addSubjects wsX0_has := goodIn_r _ [6, 7, 8, 5, 9] (by decide +kernel) (by decide +kernel)
set_option maxRecDepth 20000 in
theorem gX0_addSubjects_X0_has : GoodIn wsX0_addSubjects (va_wsS RX0 65 yX0_has wsX0_has) := goodIn_app (goodIn_of _ (by decide +kernel)) ggX0_addSubjects_X0_has
theorem dX0_addSubjects_0 : decode cX0_addSubjects 0 = .ok (.iconst 0, 1) := by decide +kernel
theorem dX0_addSubjects_1 : decode cX0_addSubjects 1 = .ok (.istore_n 3, 1) := by decide +kernel
theorem dX0_addSubjects_2 : decode cX0_addSubjects 2 = .ok (.iload_n 3, 1) := by decide +kernel
theorem dX0_addSubjects_3 : decode cX0_addSubjects 3 = .ok (.aload_n 0, 1) := by decide +kernel
theorem dX0_addSubjects_4 : decode cX0_addSubjects 4 = .ok (.getfield 115, 3) := by decide +kernel
theorem dX0_addSubjects_7 : decode cX0_addSubjects 7 = .ok (.if_icmp .ge 27, 3) := by decide +kernel
theorem dX0_addSubjects_10 : decode cX0_addSubjects 10 = .ok (.iload_n 1, 1) := by decide +kernel
theorem dX0_addSubjects_11 : decode cX0_addSubjects 11 = .ok (.iload_n 3, 1) := by decide +kernel
theorem dX0_addSubjects_12 : decode cX0_addSubjects 12 = .ok (.invokestatic 65, 3) := by decide +kernel
theorem dX0_addSubjects_15 : decode cX0_addSubjects 15 = .ok (.ifCond .eq 13, 3) := by decide +kernel
theorem dX0_addSubjects_18 : decode cX0_addSubjects 18 = .ok (.aload_n 0, 1) := by decide +kernel
theorem dX0_addSubjects_19 : decode cX0_addSubjects 19 = .ok (.getfield 25, 3) := by decide +kernel
theorem dX0_addSubjects_22 : decode cX0_addSubjects 22 = .ok (.iload_n 3, 1) := by decide +kernel
theorem dX0_addSubjects_23 : decode cX0_addSubjects 23 = .ok (.dup2, 1) := by decide +kernel
theorem dX0_addSubjects_24 : decode cX0_addSubjects 24 = .ok (.iaload, 1) := by decide +kernel
theorem dX0_addSubjects_25 : decode cX0_addSubjects 25 = .ok (.iload_n 2, 1) := by decide +kernel
theorem dX0_addSubjects_26 : decode cX0_addSubjects 26 = .ok (.ior, 1) := by decide +kernel
theorem dX0_addSubjects_27 : decode cX0_addSubjects 27 = .ok (.iastore, 1) := by decide +kernel
theorem dX0_addSubjects_28 : decode cX0_addSubjects 28 = .ok (.iinc 3 1, 3) := by decide +kernel
theorem dX0_addSubjects_31 : decode cX0_addSubjects 31 = .ok (.goto (-29), 3) := by decide +kernel
theorem dX0_addSubjects_34 : decode cX0_addSubjects 34 = .ok (.return_, 1) := by decide +kernel
theorem dX0_isRoot_0 : decode cX0_isRoot 0 = .ok (.aload_n 0, 1) := by decide +kernel
theorem dX0_isRoot_1 : decode cX0_isRoot 1 = .ok (.getfield 28, 3) := by decide +kernel
theorem dX0_isRoot_4 : decode cX0_isRoot 4 = .ok (.iload_n 1, 1) := by decide +kernel
theorem dX0_isRoot_5 : decode cX0_isRoot 5 = .ok (.iaload, 1) := by decide +kernel
theorem dX0_isRoot_6 : decode cX0_isRoot 6 = .ok (.ifCond .ne 7, 3) := by decide +kernel
theorem dX0_isRoot_9 : decode cX0_isRoot 9 = .ok (.iconst 1, 1) := by decide +kernel
theorem dX0_isRoot_10 : decode cX0_isRoot 10 = .ok (.goto 4, 3) := by decide +kernel
theorem dX0_isRoot_13 : decode cX0_isRoot 13 = .ok (.iconst 0, 1) := by decide +kernel
theorem dX0_isRoot_14 : decode cX0_isRoot 14 = .ok (.ireturn, 1) := by decide +kernel
set_option maxRecDepth 20000 in
theorem ggX0_recordsOf_X0_has : GoodIn wsX0_recordsOf wsX0_has := goodIn_r _ [6, 7, 8, 5, 9] (by decide +kernel) (by decide +kernel)
set_option maxRecDepth 20000 in
theorem gX0_recordsOf_X0_has : GoodIn wsX0_recordsOf (va_wsS RX0 65 yX0_has wsX0_has) := goodIn_app (goodIn_of _ (by decide +kernel)) ggX0_recordsOf_X0_has
set_option maxRecDepth 20000 in
theorem ggX0_recordsOf_X0_bit : GoodIn wsX0_recordsOf wsX0_bit := goodIn_r _ [9] (by decide +kernel) (by decide +kernel)
set_option maxRecDepth 20000 in
theorem gX0_recordsOf_X0_bit : GoodIn wsX0_recordsOf (va_wsS RX0 55 yX0_bit wsX0_bit) := goodIn_app (goodIn_of _ (by decide +kernel)) ggX0_recordsOf_X0_bit
theorem dX0_recordsOf_0 : decode cX0_recordsOf 0 = .ok (.iconst 0, 1) := by decide +kernel
theorem dX0_recordsOf_1 : decode cX0_recordsOf 1 = .ok (.istore_n 2, 1) := by decide +kernel
theorem dX0_recordsOf_2 : decode cX0_recordsOf 2 = .ok (.iconst 0, 1) := by decide +kernel
theorem dX0_recordsOf_3 : decode cX0_recordsOf 3 = .ok (.istore_n 3, 1) := by decide +kernel
theorem dX0_recordsOf_4 : decode cX0_recordsOf 4 = .ok (.iload_n 3, 1) := by decide +kernel
theorem dX0_recordsOf_5 : decode cX0_recordsOf 5 = .ok (.aload_n 0, 1) := by decide +kernel
theorem dX0_recordsOf_6 : decode cX0_recordsOf 6 = .ok (.getfield 115, 3) := by decide +kernel
theorem dX0_recordsOf_9 : decode cX0_recordsOf 9 = .ok (.if_icmp .ge 29, 3) := by decide +kernel
theorem dX0_recordsOf_12 : decode cX0_recordsOf 12 = .ok (.aload_n 0, 1) := by decide +kernel
theorem dX0_recordsOf_13 : decode cX0_recordsOf 13 = .ok (.getfield 25, 3) := by decide +kernel
theorem dX0_recordsOf_16 : decode cX0_recordsOf 16 = .ok (.iload_n 3, 1) := by decide +kernel
theorem dX0_recordsOf_17 : decode cX0_recordsOf 17 = .ok (.iaload, 1) := by decide +kernel
theorem dX0_recordsOf_18 : decode cX0_recordsOf 18 = .ok (.iload_n 1, 1) := by decide +kernel
theorem dX0_recordsOf_19 : decode cX0_recordsOf 19 = .ok (.invokestatic 65, 3) := by decide +kernel
theorem dX0_recordsOf_22 : decode cX0_recordsOf 22 = .ok (.ifCond .eq 10, 3) := by decide +kernel
theorem dX0_recordsOf_25 : decode cX0_recordsOf 25 = .ok (.iload_n 2, 1) := by decide +kernel
theorem dX0_recordsOf_26 : decode cX0_recordsOf 26 = .ok (.iload_n 3, 1) := by decide +kernel
theorem dX0_recordsOf_27 : decode cX0_recordsOf 27 = .ok (.invokestatic 55, 3) := by decide +kernel
theorem dX0_recordsOf_30 : decode cX0_recordsOf 30 = .ok (.ior, 1) := by decide +kernel
theorem dX0_recordsOf_31 : decode cX0_recordsOf 31 = .ok (.istore_n 2, 1) := by decide +kernel
theorem dX0_recordsOf_32 : decode cX0_recordsOf 32 = .ok (.iinc 3 1, 3) := by decide +kernel
theorem dX0_recordsOf_35 : decode cX0_recordsOf 35 = .ok (.goto (-31), 3) := by decide +kernel
theorem dX0_recordsOf_38 : decode cX0_recordsOf 38 = .ok (.iload_n 2, 1) := by decide +kernel
theorem dX0_recordsOf_39 : decode cX0_recordsOf 39 = .ok (.ireturn, 1) := by decide +kernel
set_option maxRecDepth 20000 in
theorem ggX0_rootsOf_X0_isRoot : GoodIn wsX0_rootsOf wsX0_isRoot := goodIn_r _ [7, 8, 15, 16, 17, 18, 19, 20, 21, 22, 23, 24, 25, 26, 27, 28, 29, 30] (by decide +kernel) (by decide +kernel)
set_option maxRecDepth 20000 in
theorem gX0_rootsOf_X0_isRoot : GoodIn wsX0_rootsOf (wsV RX0 95 RX0 yX0_isRoot wsX0_isRoot) := goodIn_app (goodIn_of _ (by decide +kernel)) ggX0_rootsOf_X0_isRoot
set_option maxRecDepth 20000 in
theorem ggX0_rootsOf_X0_has : GoodIn wsX0_rootsOf wsX0_has := goodIn_r _ [11, 12, 13, 6, 14] (by decide +kernel) (by decide +kernel)
set_option maxRecDepth 20000 in
theorem gX0_rootsOf_X0_has : GoodIn wsX0_rootsOf (va_wsS RX0 65 yX0_has wsX0_has) := goodIn_app (goodIn_of _ (by decide +kernel)) ggX0_rootsOf_X0_has
set_option maxRecDepth 20000 in
theorem ggX0_rootsOf_X0_bit : GoodIn wsX0_rootsOf wsX0_bit := goodIn_r _ [14] (by decide +kernel) (by decide +kernel)
set_option maxRecDepth 20000 in
theorem gX0_rootsOf_X0_bit : GoodIn wsX0_rootsOf (va_wsS RX0 55 yX0_bit wsX0_bit) := goodIn_app (goodIn_of _ (by decide +kernel)) ggX0_rootsOf_X0_bit
theorem dX0_rootsOf_0 : decode cX0_rootsOf 0 = .ok (.iconst 0, 1) := by decide +kernel
theorem dX0_rootsOf_1 : decode cX0_rootsOf 1 = .ok (.istore_n 2, 1) := by decide +kernel
theorem dX0_rootsOf_2 : decode cX0_rootsOf 2 = .ok (.iconst 0, 1) := by decide +kernel
theorem dX0_rootsOf_3 : decode cX0_rootsOf 3 = .ok (.istore_n 3, 1) := by decide +kernel
theorem dX0_rootsOf_4 : decode cX0_rootsOf 4 = .ok (.iload_n 3, 1) := by decide +kernel
theorem dX0_rootsOf_5 : decode cX0_rootsOf 5 = .ok (.aload_n 0, 1) := by decide +kernel
theorem dX0_rootsOf_6 : decode cX0_rootsOf 6 = .ok (.getfield 115, 3) := by decide +kernel
theorem dX0_rootsOf_9 : decode cX0_rootsOf 9 = .ok (.if_icmp .ge 37, 3) := by decide +kernel
theorem dX0_rootsOf_12 : decode cX0_rootsOf 12 = .ok (.aload_n 0, 1) := by decide +kernel
theorem dX0_rootsOf_13 : decode cX0_rootsOf 13 = .ok (.iload_n 3, 1) := by decide +kernel
theorem dX0_rootsOf_14 : decode cX0_rootsOf 14 = .ok (.invokevirtual 95, 3) := by decide +kernel
theorem dX0_rootsOf_17 : decode cX0_rootsOf 17 = .ok (.ifCond .eq 23, 3) := by decide +kernel
theorem dX0_rootsOf_20 : decode cX0_rootsOf 20 = .ok (.aload_n 0, 1) := by decide +kernel
theorem dX0_rootsOf_21 : decode cX0_rootsOf 21 = .ok (.getfield 25, 3) := by decide +kernel
theorem dX0_rootsOf_24 : decode cX0_rootsOf 24 = .ok (.iload_n 3, 1) := by decide +kernel
theorem dX0_rootsOf_25 : decode cX0_rootsOf 25 = .ok (.iaload, 1) := by decide +kernel
theorem dX0_rootsOf_26 : decode cX0_rootsOf 26 = .ok (.iload_n 1, 1) := by decide +kernel
theorem dX0_rootsOf_27 : decode cX0_rootsOf 27 = .ok (.invokestatic 65, 3) := by decide +kernel
theorem dX0_rootsOf_30 : decode cX0_rootsOf 30 = .ok (.ifCond .eq 10, 3) := by decide +kernel
theorem dX0_rootsOf_33 : decode cX0_rootsOf 33 = .ok (.iload_n 2, 1) := by decide +kernel
theorem dX0_rootsOf_34 : decode cX0_rootsOf 34 = .ok (.iload_n 3, 1) := by decide +kernel
theorem dX0_rootsOf_35 : decode cX0_rootsOf 35 = .ok (.invokestatic 55, 3) := by decide +kernel
theorem dX0_rootsOf_38 : decode cX0_rootsOf 38 = .ok (.ior, 1) := by decide +kernel
theorem dX0_rootsOf_39 : decode cX0_rootsOf 39 = .ok (.istore_n 2, 1) := by decide +kernel
theorem dX0_rootsOf_40 : decode cX0_rootsOf 40 = .ok (.iinc 3 1, 3) := by decide +kernel
theorem dX0_rootsOf_43 : decode cX0_rootsOf 43 = .ok (.goto (-39), 3) := by decide +kernel
theorem dX0_rootsOf_46 : decode cX0_rootsOf 46 = .ok (.iload_n 2, 1) := by decide +kernel
theorem dX0_rootsOf_47 : decode cX0_rootsOf 47 = .ok (.ireturn, 1) := by decide +kernel
set_option maxRecDepth 20000 in
theorem ggX0_withAllBelow_X0_bit : GoodIn wsX0_withAllBelow wsX0_bit := goodIn_r _ [6] (by decide +kernel) (by decide +kernel)
set_option maxRecDepth 20000 in
theorem gX0_withAllBelow_X0_bit : GoodIn wsX0_withAllBelow (va_wsS RX0 55 yX0_bit wsX0_bit) := goodIn_app (goodIn_of _ (by decide +kernel)) ggX0_withAllBelow_X0_bit
theorem dX0_withAllBelow_0 : decode cX0_withAllBelow 0 = .ok (.iload_n 1, 1) := by decide +kernel
theorem dX0_withAllBelow_1 : decode cX0_withAllBelow 1 = .ok (.istore_n 2, 1) := by decide +kernel
theorem dX0_withAllBelow_2 : decode cX0_withAllBelow 2 = .ok (.iconst 0, 1) := by decide +kernel
theorem dX0_withAllBelow_3 : decode cX0_withAllBelow 3 = .ok (.istore_n 3, 1) := by decide +kernel
theorem dX0_withAllBelow_4 : decode cX0_withAllBelow 4 = .ok (.iload_n 3, 1) := by decide +kernel
theorem dX0_withAllBelow_5 : decode cX0_withAllBelow 5 = .ok (.aload_n 0, 1) := by decide +kernel
theorem dX0_withAllBelow_6 : decode cX0_withAllBelow 6 = .ok (.getfield 115, 3) := by decide +kernel
theorem dX0_withAllBelow_9 : decode cX0_withAllBelow 9 = .ok (.if_icmp .ge 27, 3) := by decide +kernel
theorem dX0_withAllBelow_12 : decode cX0_withAllBelow 12 = .ok (.aload_n 0, 1) := by decide +kernel
theorem dX0_withAllBelow_13 : decode cX0_withAllBelow 13 = .ok (.getfield 28, 3) := by decide +kernel
theorem dX0_withAllBelow_16 : decode cX0_withAllBelow 16 = .ok (.iload_n 3, 1) := by decide +kernel
theorem dX0_withAllBelow_17 : decode cX0_withAllBelow 17 = .ok (.iaload, 1) := by decide +kernel
theorem dX0_withAllBelow_18 : decode cX0_withAllBelow 18 = .ok (.iload_n 2, 1) := by decide +kernel
theorem dX0_withAllBelow_19 : decode cX0_withAllBelow 19 = .ok (.iand, 1) := by decide +kernel
theorem dX0_withAllBelow_20 : decode cX0_withAllBelow 20 = .ok (.ifCond .eq 10, 3) := by decide +kernel
theorem dX0_withAllBelow_23 : decode cX0_withAllBelow 23 = .ok (.iload_n 2, 1) := by decide +kernel
theorem dX0_withAllBelow_24 : decode cX0_withAllBelow 24 = .ok (.iload_n 3, 1) := by decide +kernel
theorem dX0_withAllBelow_25 : decode cX0_withAllBelow 25 = .ok (.invokestatic 55, 3) := by decide +kernel
theorem dX0_withAllBelow_28 : decode cX0_withAllBelow 28 = .ok (.ior, 1) := by decide +kernel
theorem dX0_withAllBelow_29 : decode cX0_withAllBelow 29 = .ok (.istore_n 2, 1) := by decide +kernel
theorem dX0_withAllBelow_30 : decode cX0_withAllBelow 30 = .ok (.iinc 3 1, 3) := by decide +kernel
theorem dX0_withAllBelow_33 : decode cX0_withAllBelow 33 = .ok (.goto (-29), 3) := by decide +kernel
theorem dX0_withAllBelow_36 : decode cX0_withAllBelow 36 = .ok (.iload_n 2, 1) := by decide +kernel
theorem dX0_withAllBelow_37 : decode cX0_withAllBelow 37 = .ok (.ireturn, 1) := by decide +kernel
set_option maxRecDepth 20000 in
theorem ggX0_allBelow_X0_bit : GoodIn wsX0_allBelow wsX0_bit := goodIn_r _ [4] (by decide +kernel) (by decide +kernel)
set_option maxRecDepth 20000 in
theorem gX0_allBelow_X0_bit : GoodIn wsX0_allBelow (va_wsS RX0 55 yX0_bit wsX0_bit) := goodIn_app (goodIn_of _ (by decide +kernel)) ggX0_allBelow_X0_bit
set_option maxRecDepth 20000 in
theorem ggX0_allBelow_X0_withAllBelow : GoodIn wsX0_allBelow wsX0_withAllBelow := goodIn_r _ [8, 9, 10, 1, 2, 3, 4, 11, 12, 13, 14, 15, 16, 17, 18, 19, 20, 21, 22, 23, 24, 25, 26] (by decide +kernel) (by decide +kernel)
set_option maxRecDepth 20000 in
theorem gX0_allBelow_X0_withAllBelow : GoodIn wsX0_allBelow (wsV RX0 103 RX0 yX0_withAllBelow wsX0_withAllBelow) := goodIn_app (goodIn_of _ (by decide +kernel)) ggX0_allBelow_X0_withAllBelow
theorem dX0_allBelow_0 : decode cX0_allBelow 0 = .ok (.aload_n 0, 1) := by decide +kernel
theorem dX0_allBelow_1 : decode cX0_allBelow 1 = .ok (.iload_n 1, 1) := by decide +kernel
theorem dX0_allBelow_2 : decode cX0_allBelow 2 = .ok (.invokestatic 55, 3) := by decide +kernel
theorem dX0_allBelow_5 : decode cX0_allBelow 5 = .ok (.invokevirtual 103, 3) := by decide +kernel
theorem dX0_allBelow_8 : decode cX0_allBelow 8 = .ok (.iload_n 1, 1) := by decide +kernel
theorem dX0_allBelow_9 : decode cX0_allBelow 9 = .ok (.invokestatic 55, 3) := by decide +kernel
theorem dX0_allBelow_12 : decode cX0_allBelow 12 = .ok (.iconst (-1), 1) := by decide +kernel
theorem dX0_allBelow_13 : decode cX0_allBelow 13 = .ok (.ixor, 1) := by decide +kernel
theorem dX0_allBelow_14 : decode cX0_allBelow 14 = .ok (.iand, 1) := by decide +kernel
theorem dX0_allBelow_15 : decode cX0_allBelow 15 = .ok (.ireturn, 1) := by decide +kernel
set_option maxRecDepth 20000 in
theorem ggX0_purposesAllowedBy_X0_allPurposes : GoodIn wsX0_purposesAllowedBy wsX0_allPurposes := goodIn_r _ [7, 8, 9, 10, 6, 11, 15, 16, 17, 18, 19, 20, 21, 22, 23, 24, 25, 26, 27, 28, 29, 30] (by decide +kernel) (by decide +kernel)
set_option maxRecDepth 20000 in
theorem gX0_purposesAllowedBy_X0_allPurposes : GoodIn wsX0_purposesAllowedBy (wsV RX0 193 RX0 yX0_allPurposes wsX0_allPurposes) := goodIn_app (goodIn_of _ (by decide +kernel)) ggX0_purposesAllowedBy_X0_allPurposes
set_option maxRecDepth 20000 in
theorem ggX0_purposesAllowedBy_X0_has : GoodIn wsX0_purposesAllowedBy wsX0_has := goodIn_r _ [14, 9, 10, 6, 11] (by decide +kernel) (by decide +kernel)
set_option maxRecDepth 20000 in
theorem gX0_purposesAllowedBy_X0_has : GoodIn wsX0_purposesAllowedBy (va_wsS RX0 65 yX0_has wsX0_has) := goodIn_app (goodIn_of _ (by decide +kernel)) ggX0_purposesAllowedBy_X0_has
theorem dX0_purposesAllowedBy_0 : decode cX0_purposesAllowedBy 0 = .ok (.aload_n 0, 1) := by decide +kernel
theorem dX0_purposesAllowedBy_1 : decode cX0_purposesAllowedBy 1 = .ok (.invokevirtual 193, 3) := by decide +kernel
theorem dX0_purposesAllowedBy_4 : decode cX0_purposesAllowedBy 4 = .ok (.istore_n 2, 1) := by decide +kernel
theorem dX0_purposesAllowedBy_5 : decode cX0_purposesAllowedBy 5 = .ok (.iconst 0, 1) := by decide +kernel
theorem dX0_purposesAllowedBy_6 : decode cX0_purposesAllowedBy 6 = .ok (.istore_n 3, 1) := by decide +kernel
theorem dX0_purposesAllowedBy_7 : decode cX0_purposesAllowedBy 7 = .ok (.iload_n 3, 1) := by decide +kernel
theorem dX0_purposesAllowedBy_8 : decode cX0_purposesAllowedBy 8 = .ok (.bipush 12, 2) := by decide +kernel
theorem dX0_purposesAllowedBy_10 : decode cX0_purposesAllowedBy 10 = .ok (.if_icmp .ge 26, 3) := by decide +kernel
theorem dX0_purposesAllowedBy_13 : decode cX0_purposesAllowedBy 13 = .ok (.iload_n 1, 1) := by decide +kernel
theorem dX0_purposesAllowedBy_14 : decode cX0_purposesAllowedBy 14 = .ok (.iload_n 3, 1) := by decide +kernel
theorem dX0_purposesAllowedBy_15 : decode cX0_purposesAllowedBy 15 = .ok (.invokestatic 65, 3) := by decide +kernel
theorem dX0_purposesAllowedBy_18 : decode cX0_purposesAllowedBy 18 = .ok (.ifCond .eq 12, 3) := by decide +kernel
theorem dX0_purposesAllowedBy_21 : decode cX0_purposesAllowedBy 21 = .ok (.iload_n 2, 1) := by decide +kernel
theorem dX0_purposesAllowedBy_22 : decode cX0_purposesAllowedBy 22 = .ok (.aload_n 0, 1) := by decide +kernel
theorem dX0_purposesAllowedBy_23 : decode cX0_purposesAllowedBy 23 = .ok (.getfield 13, 3) := by decide +kernel
theorem dX0_purposesAllowedBy_26 : decode cX0_purposesAllowedBy 26 = .ok (.iload_n 3, 1) := by decide +kernel
theorem dX0_purposesAllowedBy_27 : decode cX0_purposesAllowedBy 27 = .ok (.iaload, 1) := by decide +kernel
theorem dX0_purposesAllowedBy_28 : decode cX0_purposesAllowedBy 28 = .ok (.iand, 1) := by decide +kernel
theorem dX0_purposesAllowedBy_29 : decode cX0_purposesAllowedBy 29 = .ok (.istore_n 2, 1) := by decide +kernel
theorem dX0_purposesAllowedBy_30 : decode cX0_purposesAllowedBy 30 = .ok (.iinc 3 1, 3) := by decide +kernel
theorem dX0_purposesAllowedBy_33 : decode cX0_purposesAllowedBy 33 = .ok (.goto (-26), 3) := by decide +kernel
theorem dX0_purposesAllowedBy_36 : decode cX0_purposesAllowedBy 36 = .ok (.iload_n 2, 1) := by decide +kernel
theorem dX0_purposesAllowedBy_37 : decode cX0_purposesAllowedBy 37 = .ok (.aload_n 0, 1) := by decide +kernel
theorem dX0_purposesAllowedBy_38 : decode cX0_purposesAllowedBy 38 = .ok (.getfield 52, 3) := by decide +kernel
theorem dX0_purposesAllowedBy_41 : decode cX0_purposesAllowedBy 41 = .ok (.ior, 1) := by decide +kernel
theorem dX0_purposesAllowedBy_42 : decode cX0_purposesAllowedBy 42 = .ok (.ireturn, 1) := by decide +kernel
theorem dX0_isRetained_0 : decode cX0_isRetained 0 = .ok (.aload_n 0, 1) := by decide +kernel
theorem dX0_isRetained_1 : decode cX0_isRetained 1 = .ok (.getfield 149, 3) := by decide +kernel
theorem dX0_isRetained_4 : decode cX0_isRetained 4 = .ok (.iload_n 2, 1) := by decide +kernel
theorem dX0_isRetained_5 : decode cX0_isRetained 5 = .ok (.aload_n 0, 1) := by decide +kernel
theorem dX0_isRetained_6 : decode cX0_isRetained 6 = .ok (.getfield 9, 3) := by decide +kernel
theorem dX0_isRetained_9 : decode cX0_isRetained 9 = .ok (.iload_n 1, 1) := by decide +kernel
theorem dX0_isRetained_10 : decode cX0_isRetained 10 = .ok (.iaload, 1) := by decide +kernel
theorem dX0_isRetained_11 : decode cX0_isRetained 11 = .ok (.iadd, 1) := by decide +kernel
theorem dX0_isRetained_12 : decode cX0_isRetained 12 = .ok (.if_icmp .ge 7, 3) := by decide +kernel
theorem dX0_isRetained_15 : decode cX0_isRetained 15 = .ok (.iconst 1, 1) := by decide +kernel
theorem dX0_isRetained_16 : decode cX0_isRetained 16 = .ok (.goto 4, 3) := by decide +kernel
theorem dX0_isRetained_19 : decode cX0_isRetained 19 = .ok (.iconst 0, 1) := by decide +kernel
theorem dX0_isRetained_20 : decode cX0_isRetained 20 = .ok (.ireturn, 1) := by decide +kernel
set_option maxRecDepth 20000 in
theorem ggX0_isAnyOpen_X0_purposesAllowedBy : GoodIn wsX0_isAnyOpen wsX0_purposesAllowedBy := goodIn_r _ [6, 7, 8, 9, 10, 11, 5, 12, 1, 13, 14, 15, 16, 17, 18, 25, 26, 27, 28, 29, 30, 31, 32, 33, 34, 35, 36, 37, 38, 39, 40] (by decide +kernel) (by decide +kernel)
set_option maxRecDepth 20000 in
theorem gX0_isAnyOpen_X0_purposesAllowedBy : GoodIn wsX0_isAnyOpen (wsV RX0 130 RX0 yX0_purposesAllowedBy wsX0_purposesAllowedBy) := goodIn_app (goodIn_of _ (by decide +kernel)) ggX0_isAnyOpen_X0_purposesAllowedBy
set_option maxRecDepth 20000 in
theorem ggX0_isAnyOpen_X0_has : GoodIn wsX0_isAnyOpen wsX0_has := goodIn_r _ [18, 13, 14, 5, 15] (by decide +kernel) (by decide +kernel)
set_option maxRecDepth 20000 in
theorem gX0_isAnyOpen_X0_has : GoodIn wsX0_isAnyOpen (va_wsS RX0 65 yX0_has wsX0_has) := goodIn_app (goodIn_of _ (by decide +kernel)) ggX0_isAnyOpen_X0_has
set_option maxRecDepth 20000 in
theorem ggX0_isAnyOpen_X0_isRetained : GoodIn wsX0_isAnyOpen wsX0_isRetained := goodIn_r _ [22, 23, 24, 25, 26, 27, 28, 29, 30, 31, 32, 33, 34, 35, 36, 37, 38, 39, 40] (by decide +kernel) (by decide +kernel)
set_option maxRecDepth 20000 in
theorem gX0_isAnyOpen_X0_isRetained : GoodIn wsX0_isAnyOpen (wsV RX0 133 RX0 yX0_isRetained wsX0_isRetained) := goodIn_app (goodIn_of _ (by decide +kernel)) ggX0_isAnyOpen_X0_isRetained
theorem dX0_isAnyOpen_0 : decode cX0_isAnyOpen 0 = .ok (.iload_n 1, 1) := by decide +kernel
theorem dX0_isAnyOpen_1 : decode cX0_isAnyOpen 1 = .ok (.aload_n 0, 1) := by decide +kernel
theorem dX0_isAnyOpen_2 : decode cX0_isAnyOpen 2 = .ok (.iload_n 2, 1) := by decide +kernel
theorem dX0_isAnyOpen_3 : decode cX0_isAnyOpen 3 = .ok (.invokevirtual 130, 3) := by decide +kernel
theorem dX0_isAnyOpen_6 : decode cX0_isAnyOpen 6 = .ok (.iand, 1) := by decide +kernel
theorem dX0_isAnyOpen_7 : decode cX0_isAnyOpen 7 = .ok (.istore 4, 2) := by decide +kernel
theorem dX0_isAnyOpen_9 : decode cX0_isAnyOpen 9 = .ok (.iconst 0, 1) := by decide +kernel
theorem dX0_isAnyOpen_10 : decode cX0_isAnyOpen 10 = .ok (.istore 5, 2) := by decide +kernel
theorem dX0_isAnyOpen_12 : decode cX0_isAnyOpen 12 = .ok (.iload 5, 2) := by decide +kernel
theorem dX0_isAnyOpen_14 : decode cX0_isAnyOpen 14 = .ok (.aload_n 0, 1) := by decide +kernel
theorem dX0_isAnyOpen_15 : decode cX0_isAnyOpen 15 = .ok (.getfield 41, 3) := by decide +kernel
theorem dX0_isAnyOpen_18 : decode cX0_isAnyOpen 18 = .ok (.if_icmp .ge 31, 3) := by decide +kernel
theorem dX0_isAnyOpen_21 : decode cX0_isAnyOpen 21 = .ok (.iload 4, 2) := by decide +kernel
theorem dX0_isAnyOpen_23 : decode cX0_isAnyOpen 23 = .ok (.iload 5, 2) := by decide +kernel
theorem dX0_isAnyOpen_25 : decode cX0_isAnyOpen 25 = .ok (.invokestatic 65, 3) := by decide +kernel
theorem dX0_isAnyOpen_28 : decode cX0_isAnyOpen 28 = .ok (.ifCond .eq 15, 3) := by decide +kernel
theorem dX0_isAnyOpen_31 : decode cX0_isAnyOpen 31 = .ok (.aload_n 0, 1) := by decide +kernel
theorem dX0_isAnyOpen_32 : decode cX0_isAnyOpen 32 = .ok (.iload 5, 2) := by decide +kernel
theorem dX0_isAnyOpen_34 : decode cX0_isAnyOpen 34 = .ok (.iload_n 3, 1) := by decide +kernel
theorem dX0_isAnyOpen_35 : decode cX0_isAnyOpen 35 = .ok (.invokevirtual 133, 3) := by decide +kernel
theorem dX0_isAnyOpen_38 : decode cX0_isAnyOpen 38 = .ok (.ifCond .eq 5, 3) := by decide +kernel
theorem dX0_isAnyOpen_41 : decode cX0_isAnyOpen 41 = .ok (.iconst 1, 1) := by decide +kernel
theorem dX0_isAnyOpen_42 : decode cX0_isAnyOpen 42 = .ok (.ireturn, 1) := by decide +kernel
theorem dX0_isAnyOpen_43 : decode cX0_isAnyOpen 43 = .ok (.iinc 5 1, 3) := by decide +kernel
theorem dX0_isAnyOpen_46 : decode cX0_isAnyOpen 46 = .ok (.goto (-34), 3) := by decide +kernel
theorem dX0_isAnyOpen_49 : decode cX0_isAnyOpen 49 = .ok (.iconst 0, 1) := by decide +kernel
theorem dX0_isAnyOpen_50 : decode cX0_isAnyOpen 50 = .ok (.ireturn, 1) := by decide +kernel
set_option maxRecDepth 20000 in
theorem ggX0_dueRecords_X0_has : GoodIn wsX0_dueRecords wsX0_has := goodIn_r _ [9, 10, 11, 8, 12] (by decide +kernel) (by decide +kernel)
set_option maxRecDepth 20000 in
theorem gX0_dueRecords_X0_has : GoodIn wsX0_dueRecords (va_wsS RX0 65 yX0_has wsX0_has) := goodIn_app (goodIn_of _ (by decide +kernel)) ggX0_dueRecords_X0_has
set_option maxRecDepth 20000 in
theorem ggX0_dueRecords_X0_isAnyOpen : GoodIn wsX0_dueRecords wsX0_isAnyOpen := goodIn_r _ [16, 17, 18, 19, 20, 8, 21, 22, 23, 24, 25, 26, 27, 10, 11, 12, 6, 7, 9, 28, 29, 30, 31, 32, 33, 34, 35, 36, 37, 38, 39, 40, 41, 42, 43, 44, 45, 46, 47, 48, 49] (by decide +kernel) (by decide +kernel)
set_option maxRecDepth 20000 in
theorem gX0_dueRecords_X0_isAnyOpen : GoodIn wsX0_dueRecords (wsV RX0 208 RX0 yX0_isAnyOpen wsX0_isAnyOpen) := goodIn_app (goodIn_of _ (by decide +kernel)) ggX0_dueRecords_X0_isAnyOpen
set_option maxRecDepth 20000 in
theorem ggX0_dueRecords_X0_bit : GoodIn wsX0_dueRecords wsX0_bit := goodIn_r _ [12] (by decide +kernel) (by decide +kernel)
set_option maxRecDepth 20000 in
theorem gX0_dueRecords_X0_bit : GoodIn wsX0_dueRecords (va_wsS RX0 55 yX0_bit wsX0_bit) := goodIn_app (goodIn_of _ (by decide +kernel)) ggX0_dueRecords_X0_bit
theorem dX0_dueRecords_0 : decode cX0_dueRecords 0 = .ok (.iconst 0, 1) := by decide +kernel
theorem dX0_dueRecords_1 : decode cX0_dueRecords 1 = .ok (.istore_n 1, 1) := by decide +kernel
theorem dX0_dueRecords_2 : decode cX0_dueRecords 2 = .ok (.iconst 0, 1) := by decide +kernel
theorem dX0_dueRecords_3 : decode cX0_dueRecords 3 = .ok (.istore_n 2, 1) := by decide +kernel
theorem dX0_dueRecords_4 : decode cX0_dueRecords 4 = .ok (.iload_n 2, 1) := by decide +kernel
theorem dX0_dueRecords_5 : decode cX0_dueRecords 5 = .ok (.aload_n 0, 1) := by decide +kernel
theorem dX0_dueRecords_6 : decode cX0_dueRecords 6 = .ok (.getfield 115, 3) := by decide +kernel
theorem dX0_dueRecords_9 : decode cX0_dueRecords 9 = .ok (.if_icmp .ge 52, 3) := by decide +kernel
theorem dX0_dueRecords_12 : decode cX0_dueRecords 12 = .ok (.aload_n 0, 1) := by decide +kernel
theorem dX0_dueRecords_13 : decode cX0_dueRecords 13 = .ok (.getfield 83, 3) := by decide +kernel
theorem dX0_dueRecords_16 : decode cX0_dueRecords 16 = .ok (.iload_n 2, 1) := by decide +kernel
theorem dX0_dueRecords_17 : decode cX0_dueRecords 17 = .ok (.invokestatic 65, 3) := by decide +kernel
theorem dX0_dueRecords_20 : decode cX0_dueRecords 20 = .ok (.ifCond .eq 35, 3) := by decide +kernel
theorem dX0_dueRecords_23 : decode cX0_dueRecords 23 = .ok (.aload_n 0, 1) := by decide +kernel
theorem dX0_dueRecords_24 : decode cX0_dueRecords 24 = .ok (.aload_n 0, 1) := by decide +kernel
theorem dX0_dueRecords_25 : decode cX0_dueRecords 25 = .ok (.getfield 22, 3) := by decide +kernel
theorem dX0_dueRecords_28 : decode cX0_dueRecords 28 = .ok (.iload_n 2, 1) := by decide +kernel
theorem dX0_dueRecords_29 : decode cX0_dueRecords 29 = .ok (.iaload, 1) := by decide +kernel
theorem dX0_dueRecords_30 : decode cX0_dueRecords 30 = .ok (.aload_n 0, 1) := by decide +kernel
theorem dX0_dueRecords_31 : decode cX0_dueRecords 31 = .ok (.getfield 25, 3) := by decide +kernel
theorem dX0_dueRecords_34 : decode cX0_dueRecords 34 = .ok (.iload_n 2, 1) := by decide +kernel
theorem dX0_dueRecords_35 : decode cX0_dueRecords 35 = .ok (.iaload, 1) := by decide +kernel
theorem dX0_dueRecords_36 : decode cX0_dueRecords 36 = .ok (.aload_n 0, 1) := by decide +kernel
theorem dX0_dueRecords_37 : decode cX0_dueRecords 37 = .ok (.getfield 19, 3) := by decide +kernel
theorem dX0_dueRecords_40 : decode cX0_dueRecords 40 = .ok (.iload_n 2, 1) := by decide +kernel
theorem dX0_dueRecords_41 : decode cX0_dueRecords 41 = .ok (.iaload, 1) := by decide +kernel
theorem dX0_dueRecords_42 : decode cX0_dueRecords 42 = .ok (.invokevirtual 208, 3) := by decide +kernel
theorem dX0_dueRecords_45 : decode cX0_dueRecords 45 = .ok (.ifCond .ne 10, 3) := by decide +kernel
theorem dX0_dueRecords_48 : decode cX0_dueRecords 48 = .ok (.iload_n 1, 1) := by decide +kernel
theorem dX0_dueRecords_49 : decode cX0_dueRecords 49 = .ok (.iload_n 2, 1) := by decide +kernel
theorem dX0_dueRecords_50 : decode cX0_dueRecords 50 = .ok (.invokestatic 55, 3) := by decide +kernel
theorem dX0_dueRecords_53 : decode cX0_dueRecords 53 = .ok (.ior, 1) := by decide +kernel
theorem dX0_dueRecords_54 : decode cX0_dueRecords 54 = .ok (.istore_n 1, 1) := by decide +kernel
theorem dX0_dueRecords_55 : decode cX0_dueRecords 55 = .ok (.iinc 2 1, 3) := by decide +kernel
theorem dX0_dueRecords_58 : decode cX0_dueRecords 58 = .ok (.goto (-54), 3) := by decide +kernel
theorem dX0_dueRecords_61 : decode cX0_dueRecords 61 = .ok (.iload_n 1, 1) := by decide +kernel
theorem dX0_dueRecords_62 : decode cX0_dueRecords 62 = .ok (.ireturn, 1) := by decide +kernel
set_option maxRecDepth 20000 in
theorem ggX0_endNow_X0_purposesAllowedBy : GoodIn wsX0_endNow wsX0_purposesAllowedBy := goodIn_r _ [14, 15, 16, 17, 18, 19, 13, 20, 3, 21, 22, 23, 24, 25, 26, 27, 28, 29, 30, 31, 32, 33, 34, 35, 36, 37, 38, 39, 40, 41, 42] (by decide +kernel) (by decide +kernel)
set_option maxRecDepth 20000 in
theorem gX0_endNow_X0_purposesAllowedBy : GoodIn wsX0_endNow (wsV RX0 130 RX0 yX0_purposesAllowedBy wsX0_purposesAllowedBy) := goodIn_app (goodIn_of _ (by decide +kernel)) ggX0_endNow_X0_purposesAllowedBy
set_option maxRecDepth 20000 in
theorem ggX0_endNow_X0_has : GoodIn wsX0_endNow wsX0_has := goodIn_r _ [26, 21, 22, 13, 23] (by decide +kernel) (by decide +kernel)
set_option maxRecDepth 20000 in
theorem gX0_endNow_X0_has : GoodIn wsX0_endNow (va_wsS RX0 65 yX0_has wsX0_has) := goodIn_app (goodIn_of _ (by decide +kernel)) ggX0_endNow_X0_has
theorem dX0_endNow_0 : decode cX0_endNow 0 = .ok (.aload_n 0, 1) := by decide +kernel
theorem dX0_endNow_1 : decode cX0_endNow 1 = .ok (.getfield 22, 3) := by decide +kernel
theorem dX0_endNow_4 : decode cX0_endNow 4 = .ok (.iload_n 1, 1) := by decide +kernel
theorem dX0_endNow_5 : decode cX0_endNow 5 = .ok (.iaload, 1) := by decide +kernel
theorem dX0_endNow_6 : decode cX0_endNow 6 = .ok (.aload_n 0, 1) := by decide +kernel
theorem dX0_endNow_7 : decode cX0_endNow 7 = .ok (.aload_n 0, 1) := by decide +kernel
theorem dX0_endNow_8 : decode cX0_endNow 8 = .ok (.getfield 25, 3) := by decide +kernel
theorem dX0_endNow_11 : decode cX0_endNow 11 = .ok (.iload_n 1, 1) := by decide +kernel
theorem dX0_endNow_12 : decode cX0_endNow 12 = .ok (.iaload, 1) := by decide +kernel
theorem dX0_endNow_13 : decode cX0_endNow 13 = .ok (.invokevirtual 130, 3) := by decide +kernel
theorem dX0_endNow_16 : decode cX0_endNow 16 = .ok (.iand, 1) := by decide +kernel
theorem dX0_endNow_17 : decode cX0_endNow 17 = .ok (.istore_n 2, 1) := by decide +kernel
theorem dX0_endNow_18 : decode cX0_endNow 18 = .ok (.iconst 0, 1) := by decide +kernel
theorem dX0_endNow_19 : decode cX0_endNow 19 = .ok (.istore_n 3, 1) := by decide +kernel
theorem dX0_endNow_20 : decode cX0_endNow 20 = .ok (.iconst 0, 1) := by decide +kernel
theorem dX0_endNow_21 : decode cX0_endNow 21 = .ok (.istore 4, 2) := by decide +kernel
theorem dX0_endNow_23 : decode cX0_endNow 23 = .ok (.iload 4, 2) := by decide +kernel
theorem dX0_endNow_25 : decode cX0_endNow 25 = .ok (.aload_n 0, 1) := by decide +kernel
theorem dX0_endNow_26 : decode cX0_endNow 26 = .ok (.getfield 41, 3) := by decide +kernel
theorem dX0_endNow_29 : decode cX0_endNow 29 = .ok (.if_icmp .ge 30, 3) := by decide +kernel
theorem dX0_endNow_32 : decode cX0_endNow 32 = .ok (.iload_n 2, 1) := by decide +kernel
theorem dX0_endNow_33 : decode cX0_endNow 33 = .ok (.iload 4, 2) := by decide +kernel
theorem dX0_endNow_35 : decode cX0_endNow 35 = .ok (.invokestatic 65, 3) := by decide +kernel
theorem dX0_endNow_38 : decode cX0_endNow 38 = .ok (.ifCond .eq 15, 3) := by decide +kernel
theorem dX0_endNow_41 : decode cX0_endNow 41 = .ok (.iload_n 3, 1) := by decide +kernel
theorem dX0_endNow_42 : decode cX0_endNow 42 = .ok (.aload_n 0, 1) := by decide +kernel
theorem dX0_endNow_43 : decode cX0_endNow 43 = .ok (.getfield 9, 3) := by decide +kernel
theorem dX0_endNow_46 : decode cX0_endNow 46 = .ok (.iload 4, 2) := by decide +kernel
theorem dX0_endNow_48 : decode cX0_endNow 48 = .ok (.iaload, 1) := by decide +kernel
theorem dX0_endNow_49 : decode cX0_endNow 49 = .ok (.invokestatic 214, 3) := by decide +kernel
theorem dX0_endNow_52 : decode cX0_endNow 52 = .ok (.istore_n 3, 1) := by decide +kernel
theorem dX0_endNow_53 : decode cX0_endNow 53 = .ok (.iinc 4 1, 3) := by decide +kernel
theorem dX0_endNow_56 : decode cX0_endNow 56 = .ok (.goto (-33), 3) := by decide +kernel
theorem dX0_endNow_59 : decode cX0_endNow 59 = .ok (.aload_n 0, 1) := by decide +kernel
theorem dX0_endNow_60 : decode cX0_endNow 60 = .ok (.getfield 19, 3) := by decide +kernel
theorem dX0_endNow_63 : decode cX0_endNow 63 = .ok (.iload_n 1, 1) := by decide +kernel
theorem dX0_endNow_64 : decode cX0_endNow 64 = .ok (.iaload, 1) := by decide +kernel
theorem dX0_endNow_65 : decode cX0_endNow 65 = .ok (.iload_n 3, 1) := by decide +kernel
theorem dX0_endNow_66 : decode cX0_endNow 66 = .ok (.iadd, 1) := by decide +kernel
theorem dX0_endNow_67 : decode cX0_endNow 67 = .ok (.ireturn, 1) := by decide +kernel
set_option maxRecDepth 20000 in
theorem ggX0_countDaysWithConsent_X0_has : GoodIn wsX0_countDaysWithConsent wsX0_has := goodIn_r _ [7, 8, 9, 6, 10] (by decide +kernel) (by decide +kernel)
set_option maxRecDepth 20000 in
theorem gX0_countDaysWithConsent_X0_has : GoodIn wsX0_countDaysWithConsent (va_wsS RX0 65 yX0_has wsX0_has) := goodIn_app (goodIn_of _ (by decide +kernel)) ggX0_countDaysWithConsent_X0_has
set_option maxRecDepth 20000 in
theorem ggX0_countDaysWithConsent_X0_consentIndex : GoodIn wsX0_countDaysWithConsent wsX0_consentIndex := goodIn_r _ [13] (by decide +kernel) (by decide +kernel)
set_option maxRecDepth 20000 in
theorem gX0_countDaysWithConsent_X0_consentIndex : GoodIn wsX0_countDaysWithConsent (va_wsS RX0 69 yX0_consentIndex wsX0_consentIndex) := goodIn_app (goodIn_of _ (by decide +kernel)) ggX0_countDaysWithConsent_X0_consentIndex
theorem dX0_countDaysWithConsent_0 : decode cX0_countDaysWithConsent 0 = .ok (.iconst 0, 1) := by decide +kernel
theorem dX0_countDaysWithConsent_1 : decode cX0_countDaysWithConsent 1 = .ok (.istore_n 2, 1) := by decide +kernel
theorem dX0_countDaysWithConsent_2 : decode cX0_countDaysWithConsent 2 = .ok (.iload_n 2, 1) := by decide +kernel
theorem dX0_countDaysWithConsent_3 : decode cX0_countDaysWithConsent 3 = .ok (.bipush 12, 2) := by decide +kernel
theorem dX0_countDaysWithConsent_5 : decode cX0_countDaysWithConsent 5 = .ok (.if_icmp .ge 52, 3) := by decide +kernel
theorem dX0_countDaysWithConsent_8 : decode cX0_countDaysWithConsent 8 = .ok (.iconst 0, 1) := by decide +kernel
theorem dX0_countDaysWithConsent_9 : decode cX0_countDaysWithConsent 9 = .ok (.istore_n 3, 1) := by decide +kernel
theorem dX0_countDaysWithConsent_10 : decode cX0_countDaysWithConsent 10 = .ok (.iload_n 3, 1) := by decide +kernel
theorem dX0_countDaysWithConsent_11 : decode cX0_countDaysWithConsent 11 = .ok (.aload_n 0, 1) := by decide +kernel
theorem dX0_countDaysWithConsent_12 : decode cX0_countDaysWithConsent 12 = .ok (.getfield 41, 3) := by decide +kernel
theorem dX0_countDaysWithConsent_15 : decode cX0_countDaysWithConsent 15 = .ok (.if_icmp .ge 36, 3) := by decide +kernel
theorem dX0_countDaysWithConsent_18 : decode cX0_countDaysWithConsent 18 = .ok (.aload_n 0, 1) := by decide +kernel
theorem dX0_countDaysWithConsent_19 : decode cX0_countDaysWithConsent 19 = .ok (.getfield 13, 3) := by decide +kernel
theorem dX0_countDaysWithConsent_22 : decode cX0_countDaysWithConsent 22 = .ok (.iload_n 2, 1) := by decide +kernel
theorem dX0_countDaysWithConsent_23 : decode cX0_countDaysWithConsent 23 = .ok (.iaload, 1) := by decide +kernel
theorem dX0_countDaysWithConsent_24 : decode cX0_countDaysWithConsent 24 = .ok (.iload_n 3, 1) := by decide +kernel
theorem dX0_countDaysWithConsent_25 : decode cX0_countDaysWithConsent 25 = .ok (.invokestatic 65, 3) := by decide +kernel
theorem dX0_countDaysWithConsent_28 : decode cX0_countDaysWithConsent 28 = .ok (.ifCond .eq 17, 3) := by decide +kernel
theorem dX0_countDaysWithConsent_31 : decode cX0_countDaysWithConsent 31 = .ok (.aload_n 0, 1) := by decide +kernel
theorem dX0_countDaysWithConsent_32 : decode cX0_countDaysWithConsent 32 = .ok (.getfield 16, 3) := by decide +kernel
theorem dX0_countDaysWithConsent_35 : decode cX0_countDaysWithConsent 35 = .ok (.iload_n 2, 1) := by decide +kernel
theorem dX0_countDaysWithConsent_36 : decode cX0_countDaysWithConsent 36 = .ok (.iload_n 3, 1) := by decide +kernel
theorem dX0_countDaysWithConsent_37 : decode cX0_countDaysWithConsent 37 = .ok (.invokestatic 69, 3) := by decide +kernel
theorem dX0_countDaysWithConsent_40 : decode cX0_countDaysWithConsent 40 = .ok (.dup2, 1) := by decide +kernel
theorem dX0_countDaysWithConsent_41 : decode cX0_countDaysWithConsent 41 = .ok (.iaload, 1) := by decide +kernel
theorem dX0_countDaysWithConsent_42 : decode cX0_countDaysWithConsent 42 = .ok (.iload_n 1, 1) := by decide +kernel
theorem dX0_countDaysWithConsent_43 : decode cX0_countDaysWithConsent 43 = .ok (.iadd, 1) := by decide +kernel
theorem dX0_countDaysWithConsent_44 : decode cX0_countDaysWithConsent 44 = .ok (.iastore, 1) := by decide +kernel
theorem dX0_countDaysWithConsent_45 : decode cX0_countDaysWithConsent 45 = .ok (.iinc 3 1, 3) := by decide +kernel
theorem dX0_countDaysWithConsent_48 : decode cX0_countDaysWithConsent 48 = .ok (.goto (-38), 3) := by decide +kernel
theorem dX0_countDaysWithConsent_51 : decode cX0_countDaysWithConsent 51 = .ok (.iinc 2 1, 3) := by decide +kernel
theorem dX0_countDaysWithConsent_54 : decode cX0_countDaysWithConsent 54 = .ok (.goto (-52), 3) := by decide +kernel
theorem dX0_countDaysWithConsent_57 : decode cX0_countDaysWithConsent 57 = .ok (.return_, 1) := by decide +kernel
set_option maxRecDepth 20000 in
theorem ggX0_requestWithAllBelow_X0_withAllBelow : GoodIn wsX0_requestWithAllBelow wsX0_withAllBelow := goodIn_r _ [7, 8, 9, 10, 11, 6, 12, 20, 21, 22, 23, 24, 25, 26, 27, 28, 29, 30, 31, 32, 33, 34, 35] (by decide +kernel) (by decide +kernel)
set_option maxRecDepth 20000 in
theorem gX0_requestWithAllBelow_X0_withAllBelow : GoodIn wsX0_requestWithAllBelow (wsV RX0 103 RX0 yX0_withAllBelow wsX0_withAllBelow) := goodIn_app (goodIn_of _ (by decide +kernel)) ggX0_requestWithAllBelow_X0_withAllBelow
set_option maxRecDepth 20000 in
theorem ggX0_requestWithAllBelow_J6_bitCount_0f7a4 : GoodIn wsX0_requestWithAllBelow wsJ6_bitCount_0f7a4 := goodIn_r _ [16, 17, 18, 19] (by decide +kernel) (by decide +kernel)
set_option maxRecDepth 20000 in
theorem gX0_requestWithAllBelow_J6_bitCount_0f7a4 : GoodIn wsX0_requestWithAllBelow (va_wsS RX0 110 yJ6_bitCount_0f7a4 wsJ6_bitCount_0f7a4) := goodIn_app (goodIn_of _ (by decide +kernel)) ggX0_requestWithAllBelow_J6_bitCount_0f7a4
theorem dX0_requestWithAllBelow_0 : decode cX0_requestWithAllBelow 0 = .ok (.aload_n 0, 1) := by decide +kernel
theorem dX0_requestWithAllBelow_1 : decode cX0_requestWithAllBelow 1 = .ok (.iload_n 1, 1) := by decide +kernel
theorem dX0_requestWithAllBelow_2 : decode cX0_requestWithAllBelow 2 = .ok (.invokevirtual 103, 3) := by decide +kernel
theorem dX0_requestWithAllBelow_5 : decode cX0_requestWithAllBelow 5 = .ok (.aload_n 0, 1) := by decide +kernel
theorem dX0_requestWithAllBelow_6 : decode cX0_requestWithAllBelow 6 = .ok (.getfield 83, 3) := by decide +kernel
theorem dX0_requestWithAllBelow_9 : decode cX0_requestWithAllBelow 9 = .ok (.iand, 1) := by decide +kernel
theorem dX0_requestWithAllBelow_10 : decode cX0_requestWithAllBelow 10 = .ok (.istore_n 2, 1) := by decide +kernel
theorem dX0_requestWithAllBelow_11 : decode cX0_requestWithAllBelow 11 = .ok (.aload_n 0, 1) := by decide +kernel
theorem dX0_requestWithAllBelow_12 : decode cX0_requestWithAllBelow 12 = .ok (.dup, 1) := by decide +kernel
theorem dX0_requestWithAllBelow_13 : decode cX0_requestWithAllBelow 13 = .ok (.getfield 83, 3) := by decide +kernel
theorem dX0_requestWithAllBelow_16 : decode cX0_requestWithAllBelow 16 = .ok (.iload_n 2, 1) := by decide +kernel
theorem dX0_requestWithAllBelow_17 : decode cX0_requestWithAllBelow 17 = .ok (.iconst (-1), 1) := by decide +kernel
theorem dX0_requestWithAllBelow_18 : decode cX0_requestWithAllBelow 18 = .ok (.ixor, 1) := by decide +kernel
theorem dX0_requestWithAllBelow_19 : decode cX0_requestWithAllBelow 19 = .ok (.iand, 1) := by decide +kernel
theorem dX0_requestWithAllBelow_20 : decode cX0_requestWithAllBelow 20 = .ok (.putfield 83, 3) := by decide +kernel
theorem dX0_requestWithAllBelow_23 : decode cX0_requestWithAllBelow 23 = .ok (.aload_n 0, 1) := by decide +kernel
theorem dX0_requestWithAllBelow_24 : decode cX0_requestWithAllBelow 24 = .ok (.dup, 1) := by decide +kernel
theorem dX0_requestWithAllBelow_25 : decode cX0_requestWithAllBelow 25 = .ok (.getfield 121, 3) := by decide +kernel
theorem dX0_requestWithAllBelow_28 : decode cX0_requestWithAllBelow 28 = .ok (.iload_n 2, 1) := by decide +kernel
theorem dX0_requestWithAllBelow_29 : decode cX0_requestWithAllBelow 29 = .ok (.ior, 1) := by decide +kernel
theorem dX0_requestWithAllBelow_30 : decode cX0_requestWithAllBelow 30 = .ok (.putfield 121, 3) := by decide +kernel
theorem dX0_requestWithAllBelow_33 : decode cX0_requestWithAllBelow 33 = .ok (.iload_n 2, 1) := by decide +kernel
theorem dX0_requestWithAllBelow_34 : decode cX0_requestWithAllBelow 34 = .ok (.invokestatic 110, 3) := by decide +kernel
theorem dX0_requestWithAllBelow_37 : decode cX0_requestWithAllBelow 37 = .ok (.ireturn, 1) := by decide +kernel
theorem dX0_heldRecords_0 : decode cX0_heldRecords 0 = .ok (.iconst 0, 1) := by decide +kernel
theorem dX0_heldRecords_1 : decode cX0_heldRecords 1 = .ok (.istore_n 1, 1) := by decide +kernel
theorem dX0_heldRecords_2 : decode cX0_heldRecords 2 = .ok (.iconst 0, 1) := by decide +kernel
theorem dX0_heldRecords_3 : decode cX0_heldRecords 3 = .ok (.istore_n 2, 1) := by decide +kernel
theorem dX0_heldRecords_4 : decode cX0_heldRecords 4 = .ok (.iload_n 2, 1) := by decide +kernel
theorem dX0_heldRecords_5 : decode cX0_heldRecords 5 = .ok (.bipush 6, 2) := by decide +kernel
theorem dX0_heldRecords_7 : decode cX0_heldRecords 7 = .ok (.if_icmp .ge 18, 3) := by decide +kernel
theorem dX0_heldRecords_10 : decode cX0_heldRecords 10 = .ok (.iload_n 1, 1) := by decide +kernel
theorem dX0_heldRecords_11 : decode cX0_heldRecords 11 = .ok (.aload_n 0, 1) := by decide +kernel
theorem dX0_heldRecords_12 : decode cX0_heldRecords 12 = .ok (.getfield 34, 3) := by decide +kernel
theorem dX0_heldRecords_15 : decode cX0_heldRecords 15 = .ok (.iload_n 2, 1) := by decide +kernel
theorem dX0_heldRecords_16 : decode cX0_heldRecords 16 = .ok (.iaload, 1) := by decide +kernel
theorem dX0_heldRecords_17 : decode cX0_heldRecords 17 = .ok (.ior, 1) := by decide +kernel
theorem dX0_heldRecords_18 : decode cX0_heldRecords 18 = .ok (.istore_n 1, 1) := by decide +kernel
theorem dX0_heldRecords_19 : decode cX0_heldRecords 19 = .ok (.iinc 2 1, 3) := by decide +kernel
theorem dX0_heldRecords_22 : decode cX0_heldRecords 22 = .ok (.goto (-18), 3) := by decide +kernel
theorem dX0_heldRecords_25 : decode cX0_heldRecords 25 = .ok (.iload_n 1, 1) := by decide +kernel
theorem dX0_heldRecords_26 : decode cX0_heldRecords 26 = .ok (.ireturn, 1) := by decide +kernel
set_option maxRecDepth 20000 in
theorem ggX0_moveToErased_X0_bit : GoodIn wsX0_moveToErased wsX0_bit := goodIn_r _ [6] (by decide +kernel) (by decide +kernel)
set_option maxRecDepth 20000 in
theorem gX0_moveToErased_X0_bit : GoodIn wsX0_moveToErased (va_wsS RX0 55 yX0_bit wsX0_bit) := goodIn_app (goodIn_of _ (by decide +kernel)) ggX0_moveToErased_X0_bit
theorem dX0_moveToErased_0 : decode cX0_moveToErased 0 = .ok (.aload_n 0, 1) := by decide +kernel
theorem dX0_moveToErased_1 : decode cX0_moveToErased 1 = .ok (.dup, 1) := by decide +kernel
theorem dX0_moveToErased_2 : decode cX0_moveToErased 2 = .ok (.getfield 121, 3) := by decide +kernel
theorem dX0_moveToErased_5 : decode cX0_moveToErased 5 = .ok (.iload_n 1, 1) := by decide +kernel
theorem dX0_moveToErased_6 : decode cX0_moveToErased 6 = .ok (.invokestatic 55, 3) := by decide +kernel
theorem dX0_moveToErased_9 : decode cX0_moveToErased 9 = .ok (.iconst (-1), 1) := by decide +kernel
theorem dX0_moveToErased_10 : decode cX0_moveToErased 10 = .ok (.ixor, 1) := by decide +kernel
theorem dX0_moveToErased_11 : decode cX0_moveToErased 11 = .ok (.iand, 1) := by decide +kernel
theorem dX0_moveToErased_12 : decode cX0_moveToErased 12 = .ok (.putfield 121, 3) := by decide +kernel
end
section
theorem dX0_moveToErased_15 : decode cX0_moveToErased 15 = .ok (.aload_n 0, 1) := by decide +kernel
theorem dX0_moveToErased_16 : decode cX0_moveToErased 16 = .ok (.dup, 1) := by decide +kernel
theorem dX0_moveToErased_17 : decode cX0_moveToErased 17 = .ok (.getfield 118, 3) := by decide +kernel
theorem dX0_moveToErased_20 : decode cX0_moveToErased 20 = .ok (.iload_n 1, 1) := by decide +kernel
theorem dX0_moveToErased_21 : decode cX0_moveToErased 21 = .ok (.invokestatic 55, 3) := by decide +kernel
theorem dX0_moveToErased_24 : decode cX0_moveToErased 24 = .ok (.ior, 1) := by decide +kernel
theorem dX0_moveToErased_25 : decode cX0_moveToErased 25 = .ok (.putfield 118, 3) := by decide +kernel
theorem dX0_moveToErased_28 : decode cX0_moveToErased 28 = .ok (.return_, 1) := by decide +kernel
theorem dX1_init_0 : decode cX1_init 0 = .ok (.aload_n 0, 1) := by decide +kernel
theorem dX1_init_1 : decode cX1_init 1 = .ok (.invokespecial 1, 3) := by decide +kernel
theorem dX1_init_4 : decode cX1_init 4 = .ok (.aload_n 0, 1) := by decide +kernel
theorem dX1_init_5 : decode cX1_init 5 = .ok (.bipush 8, 2) := by decide +kernel
theorem dX1_init_7 : decode cX1_init 7 = .ok (.newarray .int, 2) := by decide +kernel
theorem dX1_init_9 : decode cX1_init 9 = .ok (.putfield 7, 3) := by decide +kernel
theorem dX1_init_12 : decode cX1_init 12 = .ok (.aload_n 0, 1) := by decide +kernel
theorem dX1_init_13 : decode cX1_init 13 = .ok (.bipush 8, 2) := by decide +kernel
theorem dX1_init_15 : decode cX1_init 15 = .ok (.newarray .boolean, 2) := by decide +kernel
theorem dX1_init_17 : decode cX1_init 17 = .ok (.putfield 13, 3) := by decide +kernel
theorem dX1_init_20 : decode cX1_init 20 = .ok (.aload_n 0, 1) := by decide +kernel
theorem dX1_init_21 : decode cX1_init 21 = .ok (.bipush 12, 2) := by decide +kernel
theorem dX1_init_23 : decode cX1_init 23 = .ok (.newarray .int, 2) := by decide +kernel
theorem dX1_init_25 : decode cX1_init 25 = .ok (.putfield 17, 3) := by decide +kernel
theorem dX1_init_28 : decode cX1_init 28 = .ok (.aload_n 0, 1) := by decide +kernel
theorem dX1_init_29 : decode cX1_init 29 = .ok (.bipush 96, 2) := by decide +kernel
theorem dX1_init_31 : decode cX1_init 31 = .ok (.newarray .int, 2) := by decide +kernel
theorem dX1_init_33 : decode cX1_init 33 = .ok (.putfield 20, 3) := by decide +kernel
theorem dX1_init_36 : decode cX1_init 36 = .ok (.aload_n 0, 1) := by decide +kernel
theorem dX1_init_37 : decode cX1_init 37 = .ok (.bipush 30, 2) := by decide +kernel
theorem dX1_init_39 : decode cX1_init 39 = .ok (.newarray .int, 2) := by decide +kernel
theorem dX1_init_41 : decode cX1_init 41 = .ok (.putfield 23, 3) := by decide +kernel
theorem dX1_init_44 : decode cX1_init 44 = .ok (.aload_n 0, 1) := by decide +kernel
theorem dX1_init_45 : decode cX1_init 45 = .ok (.bipush 30, 2) := by decide +kernel
theorem dX1_init_47 : decode cX1_init 47 = .ok (.newarray .int, 2) := by decide +kernel
theorem dX1_init_49 : decode cX1_init 49 = .ok (.putfield 26, 3) := by decide +kernel
theorem dX1_init_52 : decode cX1_init 52 = .ok (.aload_n 0, 1) := by decide +kernel
theorem dX1_init_53 : decode cX1_init 53 = .ok (.bipush 30, 2) := by decide +kernel
theorem dX1_init_55 : decode cX1_init 55 = .ok (.newarray .int, 2) := by decide +kernel
theorem dX1_init_57 : decode cX1_init 57 = .ok (.putfield 29, 3) := by decide +kernel
theorem dX1_init_60 : decode cX1_init 60 = .ok (.aload_n 0, 1) := by decide +kernel
theorem dX1_init_61 : decode cX1_init 61 = .ok (.bipush 30, 2) := by decide +kernel
theorem dX1_init_63 : decode cX1_init 63 = .ok (.newarray .int, 2) := by decide +kernel
theorem dX1_init_65 : decode cX1_init 65 = .ok (.putfield 32, 3) := by decide +kernel
theorem dX1_init_68 : decode cX1_init 68 = .ok (.aload_n 0, 1) := by decide +kernel
theorem dX1_init_69 : decode cX1_init 69 = .ok (.bipush 30, 2) := by decide +kernel
theorem dX1_init_71 : decode cX1_init 71 = .ok (.newarray .int, 2) := by decide +kernel
theorem dX1_init_73 : decode cX1_init 73 = .ok (.putfield 35, 3) := by decide +kernel
theorem dX1_init_76 : decode cX1_init 76 = .ok (.aload_n 0, 1) := by decide +kernel
theorem dX1_init_77 : decode cX1_init 77 = .ok (.sipush 240, 3) := by decide +kernel
theorem dX1_init_80 : decode cX1_init 80 = .ok (.newarray .int, 2) := by decide +kernel
theorem dX1_init_82 : decode cX1_init 82 = .ok (.putfield 38, 3) := by decide +kernel
theorem dX1_init_85 : decode cX1_init 85 = .ok (.aload_n 0, 1) := by decide +kernel
theorem dX1_init_86 : decode cX1_init 86 = .ok (.bipush 6, 2) := by decide +kernel
theorem dX1_init_88 : decode cX1_init 88 = .ok (.newarray .int, 2) := by decide +kernel
theorem dX1_init_90 : decode cX1_init 90 = .ok (.putfield 41, 3) := by decide +kernel
theorem dX1_init_93 : decode cX1_init 93 = .ok (.return_, 1) := by decide +kernel
theorem dX1_thrown_0 : decode cX1_thrown 0 = .ok (.aload_n 0, 1) := by decide +kernel
theorem dX1_thrown_1 : decode cX1_thrown 1 = .ok (.getfield 44, 3) := by decide +kernel
theorem dX1_thrown_4 : decode cX1_thrown 4 = .ok (.ireturn, 1) := by decide +kernel
theorem dX1_fails_0 : decode cX1_fails 0 = .ok (.aload_n 0, 1) := by decide +kernel
theorem dX1_fails_1 : decode cX1_fails 1 = .ok (.iload_n 1, 1) := by decide +kernel
theorem dX1_fails_2 : decode cX1_fails 2 = .ok (.putfield 44, 3) := by decide +kernel
theorem dX1_fails_5 : decode cX1_fails 5 = .ok (.iconst 0, 1) := by decide +kernel
theorem dX1_fails_6 : decode cX1_fails 6 = .ok (.ireturn, 1) := by decide +kernel
theorem dX1_in_0 : decode cX1_in 0 = .ok (.iload_n 0, 1) := by decide +kernel
theorem dX1_in_1 : decode cX1_in 1 = .ok (.iload_n 1, 1) := by decide +kernel
theorem dX1_in_2 : decode cX1_in 2 = .ok (.if_icmp .lt 12, 3) := by decide +kernel
theorem dX1_in_5 : decode cX1_in 5 = .ok (.iload_n 0, 1) := by decide +kernel
theorem dX1_in_6 : decode cX1_in 6 = .ok (.iload_n 2, 1) := by decide +kernel
theorem dX1_in_7 : decode cX1_in 7 = .ok (.if_icmp .gt 7, 3) := by decide +kernel
theorem dX1_in_10 : decode cX1_in 10 = .ok (.iconst 1, 1) := by decide +kernel
theorem dX1_in_11 : decode cX1_in 11 = .ok (.goto 4, 3) := by decide +kernel
theorem dX1_in_14 : decode cX1_in 14 = .ok (.iconst 0, 1) := by decide +kernel
theorem dX1_in_15 : decode cX1_in 15 = .ok (.ireturn, 1) := by decide +kernel
theorem dX1_has_0 : decode cX1_has 0 = .ok (.iload_n 0, 1) := by decide +kernel
theorem dX1_has_1 : decode cX1_has 1 = .ok (.iload_n 1, 1) := by decide +kernel
theorem dX1_has_2 : decode cX1_has 2 = .ok (.ishr, 1) := by decide +kernel
theorem dX1_has_3 : decode cX1_has 3 = .ok (.iconst 1, 1) := by decide +kernel
theorem dX1_has_4 : decode cX1_has 4 = .ok (.iand, 1) := by decide +kernel
theorem dX1_has_5 : decode cX1_has 5 = .ok (.iconst 1, 1) := by decide +kernel
theorem dX1_has_6 : decode cX1_has 6 = .ok (.if_icmp .ne 7, 3) := by decide +kernel
theorem dX1_has_9 : decode cX1_has 9 = .ok (.iconst 1, 1) := by decide +kernel
theorem dX1_has_10 : decode cX1_has 10 = .ok (.goto 4, 3) := by decide +kernel
theorem dX1_has_13 : decode cX1_has 13 = .ok (.iconst 0, 1) := by decide +kernel
theorem dX1_has_14 : decode cX1_has 14 = .ok (.ireturn, 1) := by decide +kernel
theorem dX1_sizeOf_0 : decode cX1_sizeOf 0 = .ok (.iconst 0, 1) := by decide +kernel
theorem dX1_sizeOf_1 : decode cX1_sizeOf 1 = .ok (.istore_n 1, 1) := by decide +kernel
theorem dX1_sizeOf_2 : decode cX1_sizeOf 2 = .ok (.iconst 0, 1) := by decide +kernel
theorem dX1_sizeOf_3 : decode cX1_sizeOf 3 = .ok (.istore_n 2, 1) := by decide +kernel
theorem dX1_sizeOf_4 : decode cX1_sizeOf 4 = .ok (.iload_n 2, 1) := by decide +kernel
theorem dX1_sizeOf_5 : decode cX1_sizeOf 5 = .ok (.bipush 30, 2) := by decide +kernel
theorem dX1_sizeOf_7 : decode cX1_sizeOf 7 = .ok (.if_icmp .ge 17, 3) := by decide +kernel
theorem dX1_sizeOf_10 : decode cX1_sizeOf 10 = .ok (.iload_n 1, 1) := by decide +kernel
theorem dX1_sizeOf_11 : decode cX1_sizeOf 11 = .ok (.iload_n 0, 1) := by decide +kernel
theorem dX1_sizeOf_12 : decode cX1_sizeOf 12 = .ok (.iload_n 2, 1) := by decide +kernel
theorem dX1_sizeOf_13 : decode cX1_sizeOf 13 = .ok (.ishr, 1) := by decide +kernel
theorem dX1_sizeOf_14 : decode cX1_sizeOf 14 = .ok (.iconst 1, 1) := by decide +kernel
theorem dX1_sizeOf_15 : decode cX1_sizeOf 15 = .ok (.iand, 1) := by decide +kernel
theorem dX1_sizeOf_16 : decode cX1_sizeOf 16 = .ok (.iadd, 1) := by decide +kernel
theorem dX1_sizeOf_17 : decode cX1_sizeOf 17 = .ok (.istore_n 1, 1) := by decide +kernel
theorem dX1_sizeOf_18 : decode cX1_sizeOf 18 = .ok (.iinc 2 1, 3) := by decide +kernel
theorem dX1_sizeOf_21 : decode cX1_sizeOf 21 = .ok (.goto (-17), 3) := by decide +kernel
theorem dX1_sizeOf_24 : decode cX1_sizeOf 24 = .ok (.iload_n 1, 1) := by decide +kernel
theorem dX1_sizeOf_25 : decode cX1_sizeOf 25 = .ok (.ireturn, 1) := by decide +kernel
set_option maxRecDepth 20000 in
theorem ggX1_isSubject_X1_in : GoodIn wsX1_isSubject wsX1_in := goodIn_r _ [4] (by decide +kernel) (by decide +kernel)
set_option maxRecDepth 20000 in
theorem gX1_isSubject_X1_in : GoodIn wsX1_isSubject (va_wsS RX1 48 yX1_in wsX1_in) := goodIn_app (goodIn_of _ (by decide +kernel)) ggX1_isSubject_X1_in
theorem dX1_isSubject_0 : decode cX1_isSubject 0 = .ok (.iload_n 0, 1) := by decide +kernel
theorem dX1_isSubject_1 : decode cX1_isSubject 1 = .ok (.iconst 0, 1) := by decide +kernel
theorem dX1_isSubject_2 : decode cX1_isSubject 2 = .ok (.bipush 11, 2) := by decide +kernel
theorem dX1_isSubject_4 : decode cX1_isSubject 4 = .ok (.invokestatic 48, 3) := by decide +kernel
theorem dX1_isSubject_7 : decode cX1_isSubject 7 = .ok (.ireturn, 1) := by decide +kernel
set_option maxRecDepth 20000 in
theorem ggX1_isPurpose_X1_in : GoodIn wsX1_isPurpose wsX1_in := goodIn_r _ [5] (by decide +kernel) (by decide +kernel)
set_option maxRecDepth 20000 in
theorem gX1_isPurpose_X1_in : GoodIn wsX1_isPurpose (va_wsS RX1 48 yX1_in wsX1_in) := goodIn_app (goodIn_of _ (by decide +kernel)) ggX1_isPurpose_X1_in
theorem dX1_isPurpose_0 : decode cX1_isPurpose 0 = .ok (.iload_n 1, 1) := by decide +kernel
theorem dX1_isPurpose_1 : decode cX1_isPurpose 1 = .ok (.iconst 0, 1) := by decide +kernel
theorem dX1_isPurpose_2 : decode cX1_isPurpose 2 = .ok (.aload_n 0, 1) := by decide +kernel
theorem dX1_isPurpose_3 : decode cX1_isPurpose 3 = .ok (.getfield 52, 3) := by decide +kernel
theorem dX1_isPurpose_6 : decode cX1_isPurpose 6 = .ok (.iconst 1, 1) := by decide +kernel
theorem dX1_isPurpose_7 : decode cX1_isPurpose 7 = .ok (.isub, 1) := by decide +kernel
theorem dX1_isPurpose_8 : decode cX1_isPurpose 8 = .ok (.invokestatic 48, 3) := by decide +kernel
theorem dX1_isPurpose_11 : decode cX1_isPurpose 11 = .ok (.ireturn, 1) := by decide +kernel
set_option maxRecDepth 20000 in
theorem ggX1_isRecord_X1_in : GoodIn wsX1_isRecord wsX1_in := goodIn_r _ [5] (by decide +kernel) (by decide +kernel)
set_option maxRecDepth 20000 in
theorem gX1_isRecord_X1_in : GoodIn wsX1_isRecord (va_wsS RX1 48 yX1_in wsX1_in) := goodIn_app (goodIn_of _ (by decide +kernel)) ggX1_isRecord_X1_in
theorem dX1_isRecord_0 : decode cX1_isRecord 0 = .ok (.iload_n 1, 1) := by decide +kernel
theorem dX1_isRecord_1 : decode cX1_isRecord 1 = .ok (.iconst 0, 1) := by decide +kernel
theorem dX1_isRecord_2 : decode cX1_isRecord 2 = .ok (.aload_n 0, 1) := by decide +kernel
theorem dX1_isRecord_3 : decode cX1_isRecord 3 = .ok (.getfield 55, 3) := by decide +kernel
theorem dX1_isRecord_6 : decode cX1_isRecord 6 = .ok (.iconst 1, 1) := by decide +kernel
theorem dX1_isRecord_7 : decode cX1_isRecord 7 = .ok (.isub, 1) := by decide +kernel
theorem dX1_isRecord_8 : decode cX1_isRecord 8 = .ok (.invokestatic 48, 3) := by decide +kernel
theorem dX1_isRecord_11 : decode cX1_isRecord 11 = .ok (.ireturn, 1) := by decide +kernel
set_option maxRecDepth 20000 in
theorem ggX1_isSet_X1_in : GoodIn wsX1_isSet wsX1_in := goodIn_r _ [5] (by decide +kernel) (by decide +kernel)
set_option maxRecDepth 20000 in
theorem gX1_isSet_X1_in : GoodIn wsX1_isSet (va_wsS RX1 48 yX1_in wsX1_in) := goodIn_app (goodIn_of _ (by decide +kernel)) ggX1_isSet_X1_in
theorem dX1_isSet_0 : decode cX1_isSet 0 = .ok (.iload_n 1, 1) := by decide +kernel
theorem dX1_isSet_1 : decode cX1_isSet 1 = .ok (.iconst 0, 1) := by decide +kernel
theorem dX1_isSet_2 : decode cX1_isSet 2 = .ok (.iconst 1, 1) := by decide +kernel
theorem dX1_isSet_3 : decode cX1_isSet 3 = .ok (.aload_n 0, 1) := by decide +kernel
theorem dX1_isSet_4 : decode cX1_isSet 4 = .ok (.getfield 52, 3) := by decide +kernel
theorem dX1_isSet_7 : decode cX1_isSet 7 = .ok (.ishl, 1) := by decide +kernel
theorem dX1_isSet_8 : decode cX1_isSet 8 = .ok (.iconst 1, 1) := by decide +kernel
theorem dX1_isSet_9 : decode cX1_isSet 9 = .ok (.isub, 1) := by decide +kernel
theorem dX1_isSet_10 : decode cX1_isSet 10 = .ok (.invokestatic 48, 3) := by decide +kernel
theorem dX1_isSet_13 : decode cX1_isSet 13 = .ok (.ireturn, 1) := by decide +kernel
set_option maxRecDepth 20000 in
theorem ggX1_addPurpose_X1_in : GoodIn wsX1_addPurpose wsX1_in := goodIn_r _ [8] (by decide +kernel) (by decide +kernel)
set_option maxRecDepth 20000 in
theorem gX1_addPurpose_X1_in : GoodIn wsX1_addPurpose (va_wsS RX1 48 yX1_in wsX1_in) := goodIn_app (goodIn_of _ (by decide +kernel)) ggX1_addPurpose_X1_in
set_option maxRecDepth 20000 in
theorem ggX1_addPurpose_X1_fails : GoodIn wsX1_addPurpose wsX1_fails := goodIn_r _ [12, 1, 13, 14, 15, 16, 17, 18, 19, 20, 21, 22, 23, 24, 25, 26, 27] (by decide +kernel) (by decide +kernel)
set_option maxRecDepth 20000 in
theorem gX1_addPurpose_X1_fails : GoodIn wsX1_addPurpose (wsV RX1 58 RX1 yX1_fails wsX1_fails) := goodIn_app (goodIn_of _ (by decide +kernel)) ggX1_addPurpose_X1_fails
theorem dX1_addPurpose_0 : decode cX1_addPurpose 0 = .ok (.aload_n 0, 1) := by decide +kernel
theorem dX1_addPurpose_1 : decode cX1_addPurpose 1 = .ok (.iconst 0, 1) := by decide +kernel
theorem dX1_addPurpose_2 : decode cX1_addPurpose 2 = .ok (.putfield 44, 3) := by decide +kernel
theorem dX1_addPurpose_5 : decode cX1_addPurpose 5 = .ok (.iload_n 1, 1) := by decide +kernel
theorem dX1_addPurpose_6 : decode cX1_addPurpose 6 = .ok (.iconst 0, 1) := by decide +kernel
theorem dX1_addPurpose_7 : decode cX1_addPurpose 7 = .ok (.sipush 3650, 3) := by decide +kernel
theorem dX1_addPurpose_10 : decode cX1_addPurpose 10 = .ok (.invokestatic 48, 3) := by decide +kernel
theorem dX1_addPurpose_13 : decode cX1_addPurpose 13 = .ok (.ifCond .ne 9, 3) := by decide +kernel
theorem dX1_addPurpose_16 : decode cX1_addPurpose 16 = .ok (.aload_n 0, 1) := by decide +kernel
theorem dX1_addPurpose_17 : decode cX1_addPurpose 17 = .ok (.iconst 1, 1) := by decide +kernel
theorem dX1_addPurpose_18 : decode cX1_addPurpose 18 = .ok (.invokevirtual 58, 3) := by decide +kernel
theorem dX1_addPurpose_21 : decode cX1_addPurpose 21 = .ok (.ireturn, 1) := by decide +kernel
theorem dX1_addPurpose_22 : decode cX1_addPurpose 22 = .ok (.aload_n 0, 1) := by decide +kernel
theorem dX1_addPurpose_23 : decode cX1_addPurpose 23 = .ok (.getfield 52, 3) := by decide +kernel
theorem dX1_addPurpose_26 : decode cX1_addPurpose 26 = .ok (.bipush 8, 2) := by decide +kernel
theorem dX1_addPurpose_28 : decode cX1_addPurpose 28 = .ok (.if_icmp .ne 9, 3) := by decide +kernel
theorem dX1_addPurpose_31 : decode cX1_addPurpose 31 = .ok (.aload_n 0, 1) := by decide +kernel
theorem dX1_addPurpose_32 : decode cX1_addPurpose 32 = .ok (.iconst 2, 1) := by decide +kernel
theorem dX1_addPurpose_33 : decode cX1_addPurpose 33 = .ok (.invokevirtual 58, 3) := by decide +kernel
theorem dX1_addPurpose_36 : decode cX1_addPurpose 36 = .ok (.ireturn, 1) := by decide +kernel
theorem dX1_addPurpose_37 : decode cX1_addPurpose 37 = .ok (.aload_n 0, 1) := by decide +kernel
theorem dX1_addPurpose_38 : decode cX1_addPurpose 38 = .ok (.getfield 7, 3) := by decide +kernel
theorem dX1_addPurpose_41 : decode cX1_addPurpose 41 = .ok (.aload_n 0, 1) := by decide +kernel
theorem dX1_addPurpose_42 : decode cX1_addPurpose 42 = .ok (.getfield 52, 3) := by decide +kernel
theorem dX1_addPurpose_45 : decode cX1_addPurpose 45 = .ok (.iload_n 1, 1) := by decide +kernel
theorem dX1_addPurpose_46 : decode cX1_addPurpose 46 = .ok (.iastore, 1) := by decide +kernel
theorem dX1_addPurpose_47 : decode cX1_addPurpose 47 = .ok (.aload_n 0, 1) := by decide +kernel
theorem dX1_addPurpose_48 : decode cX1_addPurpose 48 = .ok (.getfield 13, 3) := by decide +kernel
theorem dX1_addPurpose_51 : decode cX1_addPurpose 51 = .ok (.aload_n 0, 1) := by decide +kernel
theorem dX1_addPurpose_52 : decode cX1_addPurpose 52 = .ok (.getfield 52, 3) := by decide +kernel
theorem dX1_addPurpose_55 : decode cX1_addPurpose 55 = .ok (.iload_n 2, 1) := by decide +kernel
theorem dX1_addPurpose_56 : decode cX1_addPurpose 56 = .ok (.bastore, 1) := by decide +kernel
theorem dX1_addPurpose_57 : decode cX1_addPurpose 57 = .ok (.aload_n 0, 1) := by decide +kernel
theorem dX1_addPurpose_58 : decode cX1_addPurpose 58 = .ok (.dup, 1) := by decide +kernel
theorem dX1_addPurpose_59 : decode cX1_addPurpose 59 = .ok (.getfield 52, 3) := by decide +kernel
theorem dX1_addPurpose_62 : decode cX1_addPurpose 62 = .ok (.iconst 1, 1) := by decide +kernel
theorem dX1_addPurpose_63 : decode cX1_addPurpose 63 = .ok (.iadd, 1) := by decide +kernel
theorem dX1_addPurpose_64 : decode cX1_addPurpose 64 = .ok (.putfield 52, 3) := by decide +kernel
theorem dX1_addPurpose_67 : decode cX1_addPurpose 67 = .ok (.aload_n 0, 1) := by decide +kernel
theorem dX1_addPurpose_68 : decode cX1_addPurpose 68 = .ok (.getfield 52, 3) := by decide +kernel
theorem dX1_addPurpose_71 : decode cX1_addPurpose 71 = .ok (.iconst 1, 1) := by decide +kernel
theorem dX1_addPurpose_72 : decode cX1_addPurpose 72 = .ok (.isub, 1) := by decide +kernel
theorem dX1_addPurpose_73 : decode cX1_addPurpose 73 = .ok (.ireturn, 1) := by decide +kernel
set_option maxRecDepth 20000 in
theorem ggX1_setRetention_X1_isPurpose : GoodIn wsX1_setRetention wsX1_isPurpose := goodIn_r _ [7, 8, 9, 10, 6, 11, 16, 17, 18, 19, 20, 21, 22, 23, 24, 25, 26, 27, 28, 29, 30] (by decide +kernel) (by decide +kernel)
set_option maxRecDepth 20000 in
theorem gX1_setRetention_X1_isPurpose : GoodIn wsX1_setRetention (wsV RX1 62 RX1 yX1_isPurpose wsX1_isPurpose) := goodIn_app (goodIn_of _ (by decide +kernel)) ggX1_setRetention_X1_isPurpose
set_option maxRecDepth 20000 in
theorem ggX1_setRetention_X1_fails : GoodIn wsX1_setRetention wsX1_fails := goodIn_r _ [15, 1, 16, 17, 18, 19, 20, 21, 22, 23, 24, 25, 26, 27, 28, 29, 30] (by decide +kernel) (by decide +kernel)
set_option maxRecDepth 20000 in
theorem gX1_setRetention_X1_fails : GoodIn wsX1_setRetention (wsV RX1 58 RX1 yX1_fails wsX1_fails) := goodIn_app (goodIn_of _ (by decide +kernel)) ggX1_setRetention_X1_fails
set_option maxRecDepth 20000 in
theorem ggX1_setRetention_X1_in : GoodIn wsX1_setRetention wsX1_in := goodIn_r _ [11] (by decide +kernel) (by decide +kernel)
set_option maxRecDepth 20000 in
theorem gX1_setRetention_X1_in : GoodIn wsX1_setRetention (va_wsS RX1 48 yX1_in wsX1_in) := goodIn_app (goodIn_of _ (by decide +kernel)) ggX1_setRetention_X1_in
theorem dX1_setRetention_0 : decode cX1_setRetention 0 = .ok (.aload_n 0, 1) := by decide +kernel
theorem dX1_setRetention_1 : decode cX1_setRetention 1 = .ok (.iconst 0, 1) := by decide +kernel
theorem dX1_setRetention_2 : decode cX1_setRetention 2 = .ok (.putfield 44, 3) := by decide +kernel
theorem dX1_setRetention_5 : decode cX1_setRetention 5 = .ok (.aload_n 0, 1) := by decide +kernel
theorem dX1_setRetention_6 : decode cX1_setRetention 6 = .ok (.iload_n 1, 1) := by decide +kernel
theorem dX1_setRetention_7 : decode cX1_setRetention 7 = .ok (.invokevirtual 62, 3) := by decide +kernel
theorem dX1_setRetention_10 : decode cX1_setRetention 10 = .ok (.ifCond .ne 9, 3) := by decide +kernel
theorem dX1_setRetention_13 : decode cX1_setRetention 13 = .ok (.aload_n 0, 1) := by decide +kernel
theorem dX1_setRetention_14 : decode cX1_setRetention 14 = .ok (.iconst 1, 1) := by decide +kernel
theorem dX1_setRetention_15 : decode cX1_setRetention 15 = .ok (.invokevirtual 58, 3) := by decide +kernel
theorem dX1_setRetention_18 : decode cX1_setRetention 18 = .ok (.ireturn, 1) := by decide +kernel
theorem dX1_setRetention_19 : decode cX1_setRetention 19 = .ok (.iload_n 2, 1) := by decide +kernel
theorem dX1_setRetention_20 : decode cX1_setRetention 20 = .ok (.iconst 0, 1) := by decide +kernel
theorem dX1_setRetention_21 : decode cX1_setRetention 21 = .ok (.sipush 3650, 3) := by decide +kernel
theorem dX1_setRetention_24 : decode cX1_setRetention 24 = .ok (.invokestatic 48, 3) := by decide +kernel
theorem dX1_setRetention_27 : decode cX1_setRetention 27 = .ok (.ifCond .ne 9, 3) := by decide +kernel
theorem dX1_setRetention_30 : decode cX1_setRetention 30 = .ok (.aload_n 0, 1) := by decide +kernel
theorem dX1_setRetention_31 : decode cX1_setRetention 31 = .ok (.iconst 2, 1) := by decide +kernel
theorem dX1_setRetention_32 : decode cX1_setRetention 32 = .ok (.invokevirtual 58, 3) := by decide +kernel
theorem dX1_setRetention_35 : decode cX1_setRetention 35 = .ok (.ireturn, 1) := by decide +kernel
theorem dX1_setRetention_36 : decode cX1_setRetention 36 = .ok (.aload_n 0, 1) := by decide +kernel
theorem dX1_setRetention_37 : decode cX1_setRetention 37 = .ok (.getfield 7, 3) := by decide +kernel
theorem dX1_setRetention_40 : decode cX1_setRetention 40 = .ok (.iload_n 1, 1) := by decide +kernel
theorem dX1_setRetention_41 : decode cX1_setRetention 41 = .ok (.iaload, 1) := by decide +kernel
theorem dX1_setRetention_42 : decode cX1_setRetention 42 = .ok (.istore_n 3, 1) := by decide +kernel
theorem dX1_setRetention_43 : decode cX1_setRetention 43 = .ok (.aload_n 0, 1) := by decide +kernel
theorem dX1_setRetention_44 : decode cX1_setRetention 44 = .ok (.getfield 7, 3) := by decide +kernel
theorem dX1_setRetention_47 : decode cX1_setRetention 47 = .ok (.iload_n 1, 1) := by decide +kernel
theorem dX1_setRetention_48 : decode cX1_setRetention 48 = .ok (.iload_n 2, 1) := by decide +kernel
theorem dX1_setRetention_49 : decode cX1_setRetention 49 = .ok (.iastore, 1) := by decide +kernel
theorem dX1_setRetention_50 : decode cX1_setRetention 50 = .ok (.iload_n 3, 1) := by decide +kernel
theorem dX1_setRetention_51 : decode cX1_setRetention 51 = .ok (.ireturn, 1) := by decide +kernel
set_option maxRecDepth 20000 in
theorem ggX1_consent_X1_isSubject : GoodIn wsX1_consent wsX1_isSubject := goodIn_r _ [6, 7, 8, 5, 9] (by decide +kernel) (by decide +kernel)
set_option maxRecDepth 20000 in
theorem gX1_consent_X1_isSubject : GoodIn wsX1_consent (va_wsS RX1 66 yX1_isSubject wsX1_isSubject) := goodIn_app (goodIn_of _ (by decide +kernel)) ggX1_consent_X1_isSubject
set_option maxRecDepth 20000 in
theorem ggX1_consent_X1_isPurpose : GoodIn wsX1_consent wsX1_isPurpose := goodIn_r _ [13, 14, 7, 8, 5, 9, 18, 19, 20, 21, 22, 23, 24, 25, 26, 27, 28, 29, 30, 31, 32] (by decide +kernel) (by decide +kernel)
set_option maxRecDepth 20000 in
theorem gX1_consent_X1_isPurpose : GoodIn wsX1_consent (wsV RX1 62 RX1 yX1_isPurpose wsX1_isPurpose) := goodIn_app (goodIn_of _ (by decide +kernel)) ggX1_consent_X1_isPurpose
set_option maxRecDepth 20000 in
theorem ggX1_consent_X1_has : GoodIn wsX1_consent wsX1_has := goodIn_r _ [17] (by decide +kernel) (by decide +kernel)
set_option maxRecDepth 20000 in
theorem gX1_consent_X1_has : GoodIn wsX1_consent (va_wsS RX1 69 yX1_has wsX1_has) := goodIn_app (goodIn_of _ (by decide +kernel)) ggX1_consent_X1_has
theorem dX1_consent_0 : decode cX1_consent 0 = .ok (.aload_n 0, 1) := by decide +kernel
theorem dX1_consent_1 : decode cX1_consent 1 = .ok (.iload_n 1, 1) := by decide +kernel
theorem dX1_consent_2 : decode cX1_consent 2 = .ok (.invokestatic 66, 3) := by decide +kernel
theorem dX1_consent_5 : decode cX1_consent 5 = .ok (.ifCond .eq 15, 3) := by decide +kernel
theorem dX1_consent_8 : decode cX1_consent 8 = .ok (.aload_n 0, 1) := by decide +kernel
theorem dX1_consent_9 : decode cX1_consent 9 = .ok (.iload_n 2, 1) := by decide +kernel
theorem dX1_consent_10 : decode cX1_consent 10 = .ok (.invokevirtual 62, 3) := by decide +kernel
theorem dX1_consent_13 : decode cX1_consent 13 = .ok (.ifCond .eq 7, 3) := by decide +kernel
theorem dX1_consent_16 : decode cX1_consent 16 = .ok (.iconst 0, 1) := by decide +kernel
theorem dX1_consent_17 : decode cX1_consent 17 = .ok (.goto 4, 3) := by decide +kernel
theorem dX1_consent_20 : decode cX1_consent 20 = .ok (.iconst 1, 1) := by decide +kernel
theorem dX1_consent_21 : decode cX1_consent 21 = .ok (.putfield 44, 3) := by decide +kernel
theorem dX1_consent_24 : decode cX1_consent 24 = .ok (.aload_n 0, 1) := by decide +kernel
theorem dX1_consent_25 : decode cX1_consent 25 = .ok (.getfield 44, 3) := by decide +kernel
theorem dX1_consent_28 : decode cX1_consent 28 = .ok (.ifCond .gt 17, 3) := by decide +kernel
theorem dX1_consent_31 : decode cX1_consent 31 = .ok (.aload_n 0, 1) := by decide +kernel
theorem dX1_consent_32 : decode cX1_consent 32 = .ok (.getfield 17, 3) := by decide +kernel
theorem dX1_consent_35 : decode cX1_consent 35 = .ok (.iload_n 1, 1) := by decide +kernel
theorem dX1_consent_36 : decode cX1_consent 36 = .ok (.iaload, 1) := by decide +kernel
theorem dX1_consent_37 : decode cX1_consent 37 = .ok (.iload_n 2, 1) := by decide +kernel
theorem dX1_consent_38 : decode cX1_consent 38 = .ok (.invokestatic 69, 3) := by decide +kernel
theorem dX1_consent_41 : decode cX1_consent 41 = .ok (.iload_n 3, 1) := by decide +kernel
theorem dX1_consent_42 : decode cX1_consent 42 = .ok (.if_icmp .ne 5, 3) := by decide +kernel
theorem dX1_consent_45 : decode cX1_consent 45 = .ok (.iconst 0, 1) := by decide +kernel
theorem dX1_consent_46 : decode cX1_consent 46 = .ok (.ireturn, 1) := by decide +kernel
theorem dX1_consent_47 : decode cX1_consent 47 = .ok (.aload_n 0, 1) := by decide +kernel
theorem dX1_consent_48 : decode cX1_consent 48 = .ok (.getfield 17, 3) := by decide +kernel
theorem dX1_consent_51 : decode cX1_consent 51 = .ok (.iload_n 1, 1) := by decide +kernel
theorem dX1_consent_52 : decode cX1_consent 52 = .ok (.dup2, 1) := by decide +kernel
theorem dX1_consent_53 : decode cX1_consent 53 = .ok (.iaload, 1) := by decide +kernel
theorem dX1_consent_54 : decode cX1_consent 54 = .ok (.iconst 1, 1) := by decide +kernel
theorem dX1_consent_55 : decode cX1_consent 55 = .ok (.iload_n 2, 1) := by decide +kernel
theorem dX1_consent_56 : decode cX1_consent 56 = .ok (.ishl, 1) := by decide +kernel
theorem dX1_consent_57 : decode cX1_consent 57 = .ok (.ixor, 1) := by decide +kernel
theorem dX1_consent_58 : decode cX1_consent 58 = .ok (.iastore, 1) := by decide +kernel
theorem dX1_consent_59 : decode cX1_consent 59 = .ok (.iconst 1, 1) := by decide +kernel
theorem dX1_consent_60 : decode cX1_consent 60 = .ok (.ireturn, 1) := by decide +kernel
set_option maxRecDepth 20000 in
theorem ggX1_consents_X1_isSubject : GoodIn wsX1_consents wsX1_isSubject := goodIn_r _ [6, 7, 8, 5, 9] (by decide +kernel) (by decide +kernel)
set_option maxRecDepth 20000 in
theorem gX1_consents_X1_isSubject : GoodIn wsX1_consents (va_wsS RX1 66 yX1_isSubject wsX1_isSubject) := goodIn_app (goodIn_of _ (by decide +kernel)) ggX1_consents_X1_isSubject
set_option maxRecDepth 20000 in
theorem ggX1_consents_X1_fails : GoodIn wsX1_consents wsX1_fails := goodIn_r _ [13, 1, 14, 15, 16, 17, 18, 19, 20, 21, 22, 23, 24, 25, 26, 27, 28] (by decide +kernel) (by decide +kernel)
set_option maxRecDepth 20000 in
theorem gX1_consents_X1_fails : GoodIn wsX1_consents (wsV RX1 58 RX1 yX1_fails wsX1_fails) := goodIn_app (goodIn_of _ (by decide +kernel)) ggX1_consents_X1_fails
theorem dX1_consents_0 : decode cX1_consents 0 = .ok (.aload_n 0, 1) := by decide +kernel
theorem dX1_consents_1 : decode cX1_consents 1 = .ok (.iconst 0, 1) := by decide +kernel
theorem dX1_consents_2 : decode cX1_consents 2 = .ok (.putfield 44, 3) := by decide +kernel
theorem dX1_consents_5 : decode cX1_consents 5 = .ok (.iload_n 1, 1) := by decide +kernel
theorem dX1_consents_6 : decode cX1_consents 6 = .ok (.invokestatic 66, 3) := by decide +kernel
theorem dX1_consents_9 : decode cX1_consents 9 = .ok (.ifCond .eq 12, 3) := by decide +kernel
theorem dX1_consents_12 : decode cX1_consents 12 = .ok (.aload_n 0, 1) := by decide +kernel
theorem dX1_consents_13 : decode cX1_consents 13 = .ok (.getfield 17, 3) := by decide +kernel
theorem dX1_consents_16 : decode cX1_consents 16 = .ok (.iload_n 1, 1) := by decide +kernel
theorem dX1_consents_17 : decode cX1_consents 17 = .ok (.iaload, 1) := by decide +kernel
theorem dX1_consents_18 : decode cX1_consents 18 = .ok (.goto 8, 3) := by decide +kernel
theorem dX1_consents_21 : decode cX1_consents 21 = .ok (.aload_n 0, 1) := by decide +kernel
theorem dX1_consents_22 : decode cX1_consents 22 = .ok (.iconst 1, 1) := by decide +kernel
theorem dX1_consents_23 : decode cX1_consents 23 = .ok (.invokevirtual 58, 3) := by decide +kernel
theorem dX1_consents_26 : decode cX1_consents 26 = .ok (.ireturn, 1) := by decide +kernel
set_option maxRecDepth 20000 in
theorem ggX1_daysWithConsent_X1_isSubject : GoodIn wsX1_daysWithConsent wsX1_isSubject := goodIn_r _ [6, 7, 8, 5, 9] (by decide +kernel) (by decide +kernel)
set_option maxRecDepth 20000 in
theorem gX1_daysWithConsent_X1_isSubject : GoodIn wsX1_daysWithConsent (va_wsS RX1 66 yX1_isSubject wsX1_isSubject) := goodIn_app (goodIn_of _ (by decide +kernel)) ggX1_daysWithConsent_X1_isSubject
set_option maxRecDepth 20000 in
theorem ggX1_daysWithConsent_X1_isPurpose : GoodIn wsX1_daysWithConsent wsX1_isPurpose := goodIn_r _ [13, 14, 7, 8, 5, 9, 19, 20, 21, 22, 23, 24, 25, 26, 27, 28, 29, 30, 31, 32, 33] (by decide +kernel) (by decide +kernel)
set_option maxRecDepth 20000 in
theorem gX1_daysWithConsent_X1_isPurpose : GoodIn wsX1_daysWithConsent (wsV RX1 62 RX1 yX1_isPurpose wsX1_isPurpose) := goodIn_app (goodIn_of _ (by decide +kernel)) ggX1_daysWithConsent_X1_isPurpose
set_option maxRecDepth 20000 in
theorem ggX1_daysWithConsent_X1_fails : GoodIn wsX1_daysWithConsent wsX1_fails := goodIn_r _ [18, 1, 19, 20, 21, 22, 23, 24, 25, 26, 27, 28, 29, 30, 31, 32, 33] (by decide +kernel) (by decide +kernel)
set_option maxRecDepth 20000 in
theorem gX1_daysWithConsent_X1_fails : GoodIn wsX1_daysWithConsent (wsV RX1 58 RX1 yX1_fails wsX1_fails) := goodIn_app (goodIn_of _ (by decide +kernel)) ggX1_daysWithConsent_X1_fails
theorem dX1_daysWithConsent_0 : decode cX1_daysWithConsent 0 = .ok (.aload_n 0, 1) := by decide +kernel
theorem dX1_daysWithConsent_1 : decode cX1_daysWithConsent 1 = .ok (.iconst 0, 1) := by decide +kernel
theorem dX1_daysWithConsent_2 : decode cX1_daysWithConsent 2 = .ok (.putfield 44, 3) := by decide +kernel
theorem dX1_daysWithConsent_5 : decode cX1_daysWithConsent 5 = .ok (.iload_n 1, 1) := by decide +kernel
theorem dX1_daysWithConsent_6 : decode cX1_daysWithConsent 6 = .ok (.invokestatic 66, 3) := by decide +kernel
theorem dX1_daysWithConsent_9 : decode cX1_daysWithConsent 9 = .ok (.ifCond .eq 25, 3) := by decide +kernel
theorem dX1_daysWithConsent_12 : decode cX1_daysWithConsent 12 = .ok (.aload_n 0, 1) := by decide +kernel
theorem dX1_daysWithConsent_13 : decode cX1_daysWithConsent 13 = .ok (.iload_n 2, 1) := by decide +kernel
theorem dX1_daysWithConsent_14 : decode cX1_daysWithConsent 14 = .ok (.invokevirtual 62, 3) := by decide +kernel
theorem dX1_daysWithConsent_17 : decode cX1_daysWithConsent 17 = .ok (.ifCond .eq 17, 3) := by decide +kernel
theorem dX1_daysWithConsent_20 : decode cX1_daysWithConsent 20 = .ok (.aload_n 0, 1) := by decide +kernel
theorem dX1_daysWithConsent_21 : decode cX1_daysWithConsent 21 = .ok (.getfield 20, 3) := by decide +kernel
theorem dX1_daysWithConsent_24 : decode cX1_daysWithConsent 24 = .ok (.bipush 8, 2) := by decide +kernel
theorem dX1_daysWithConsent_26 : decode cX1_daysWithConsent 26 = .ok (.iload_n 1, 1) := by decide +kernel
theorem dX1_daysWithConsent_27 : decode cX1_daysWithConsent 27 = .ok (.imul, 1) := by decide +kernel
theorem dX1_daysWithConsent_28 : decode cX1_daysWithConsent 28 = .ok (.iload_n 2, 1) := by decide +kernel
theorem dX1_daysWithConsent_29 : decode cX1_daysWithConsent 29 = .ok (.iadd, 1) := by decide +kernel
theorem dX1_daysWithConsent_30 : decode cX1_daysWithConsent 30 = .ok (.iaload, 1) := by decide +kernel
theorem dX1_daysWithConsent_31 : decode cX1_daysWithConsent 31 = .ok (.goto 8, 3) := by decide +kernel
theorem dX1_daysWithConsent_34 : decode cX1_daysWithConsent 34 = .ok (.aload_n 0, 1) := by decide +kernel
theorem dX1_daysWithConsent_35 : decode cX1_daysWithConsent 35 = .ok (.iconst 1, 1) := by decide +kernel
theorem dX1_daysWithConsent_36 : decode cX1_daysWithConsent 36 = .ok (.invokevirtual 58, 3) := by decide +kernel
theorem dX1_daysWithConsent_39 : decode cX1_daysWithConsent 39 = .ok (.ireturn, 1) := by decide +kernel
set_option maxRecDepth 20000 in
theorem ggX1_subjects_X1_aboveOf : GoodIn wsX1_subjects wsX1_aboveOf := goodIn_r _ [7, 1, 8, 9, 6, 10, 11, 12, 13, 14, 15, 16, 17, 18, 19, 20, 21, 22, 23, 24, 25] (by decide +kernel) (by decide +kernel)
set_option maxRecDepth 20000 in
theorem gX1_subjects_X1_aboveOf : GoodIn wsX1_subjects (wsV RX1 73 RX1 yX1_aboveOf wsX1_aboveOf) := goodIn_app (goodIn_of _ (by decide +kernel)) ggX1_subjects_X1_aboveOf
set_option maxRecDepth 20000 in
theorem ggX1_subjects_X1_has : GoodIn wsX1_subjects wsX1_has := goodIn_r _ [10] (by decide +kernel) (by decide +kernel)
set_option maxRecDepth 20000 in
theorem gX1_subjects_X1_has : GoodIn wsX1_subjects (va_wsS RX1 69 yX1_has wsX1_has) := goodIn_app (goodIn_of _ (by decide +kernel)) ggX1_subjects_X1_has
theorem dX1_subjects_0 : decode cX1_subjects 0 = .ok (.aload_n 0, 1) := by decide +kernel
theorem dX1_subjects_1 : decode cX1_subjects 1 = .ok (.getfield 26, 3) := by decide +kernel
theorem dX1_subjects_4 : decode cX1_subjects 4 = .ok (.iload_n 1, 1) := by decide +kernel
theorem dX1_subjects_5 : decode cX1_subjects 5 = .ok (.iaload, 1) := by decide +kernel
theorem dX1_subjects_6 : decode cX1_subjects 6 = .ok (.ifCond .ne 12, 3) := by decide +kernel
theorem dX1_subjects_9 : decode cX1_subjects 9 = .ok (.iconst 1, 1) := by decide +kernel
theorem dX1_subjects_10 : decode cX1_subjects 10 = .ok (.aload_n 0, 1) := by decide +kernel
theorem dX1_subjects_11 : decode cX1_subjects 11 = .ok (.getfield 23, 3) := by decide +kernel
theorem dX1_subjects_14 : decode cX1_subjects 14 = .ok (.iload_n 1, 1) := by decide +kernel
theorem dX1_subjects_15 : decode cX1_subjects 15 = .ok (.iaload, 1) := by decide +kernel
theorem dX1_subjects_16 : decode cX1_subjects 16 = .ok (.ishl, 1) := by decide +kernel
theorem dX1_subjects_17 : decode cX1_subjects 17 = .ok (.ireturn, 1) := by decide +kernel
theorem dX1_subjects_18 : decode cX1_subjects 18 = .ok (.iconst 0, 1) := by decide +kernel
theorem dX1_subjects_19 : decode cX1_subjects 19 = .ok (.istore_n 2, 1) := by decide +kernel
theorem dX1_subjects_20 : decode cX1_subjects 20 = .ok (.aload_n 0, 1) := by decide +kernel
theorem dX1_subjects_21 : decode cX1_subjects 21 = .ok (.iload_n 1, 1) := by decide +kernel
theorem dX1_subjects_22 : decode cX1_subjects 22 = .ok (.invokevirtual 73, 3) := by decide +kernel
theorem dX1_subjects_25 : decode cX1_subjects 25 = .ok (.istore_n 3, 1) := by decide +kernel
theorem dX1_subjects_26 : decode cX1_subjects 26 = .ok (.iconst 0, 1) := by decide +kernel
theorem dX1_subjects_27 : decode cX1_subjects 27 = .ok (.istore 4, 2) := by decide +kernel
theorem dX1_subjects_29 : decode cX1_subjects 29 = .ok (.iload 4, 2) := by decide +kernel
theorem dX1_subjects_31 : decode cX1_subjects 31 = .ok (.iload_n 1, 1) := by decide +kernel
theorem dX1_subjects_32 : decode cX1_subjects 32 = .ok (.if_icmp .ge 44, 3) := by decide +kernel
theorem dX1_subjects_35 : decode cX1_subjects 35 = .ok (.iload_n 2, 1) := by decide +kernel
theorem dX1_subjects_36 : decode cX1_subjects 36 = .ok (.iload_n 3, 1) := by decide +kernel
theorem dX1_subjects_37 : decode cX1_subjects 37 = .ok (.iload 4, 2) := by decide +kernel
theorem dX1_subjects_39 : decode cX1_subjects 39 = .ok (.invokestatic 69, 3) := by decide +kernel
theorem dX1_subjects_42 : decode cX1_subjects 42 = .ok (.ifCond .eq 25, 3) := by decide +kernel
theorem dX1_subjects_45 : decode cX1_subjects 45 = .ok (.aload_n 0, 1) := by decide +kernel
theorem dX1_subjects_46 : decode cX1_subjects 46 = .ok (.getfield 26, 3) := by decide +kernel
theorem dX1_subjects_49 : decode cX1_subjects 49 = .ok (.iload 4, 2) := by decide +kernel
theorem dX1_subjects_51 : decode cX1_subjects 51 = .ok (.iaload, 1) := by decide +kernel
theorem dX1_subjects_52 : decode cX1_subjects 52 = .ok (.ifCond .ne 15, 3) := by decide +kernel
theorem dX1_subjects_55 : decode cX1_subjects 55 = .ok (.iconst 1, 1) := by decide +kernel
theorem dX1_subjects_56 : decode cX1_subjects 56 = .ok (.aload_n 0, 1) := by decide +kernel
theorem dX1_subjects_57 : decode cX1_subjects 57 = .ok (.getfield 23, 3) := by decide +kernel
theorem dX1_subjects_60 : decode cX1_subjects 60 = .ok (.iload 4, 2) := by decide +kernel
theorem dX1_subjects_62 : decode cX1_subjects 62 = .ok (.iaload, 1) := by decide +kernel
theorem dX1_subjects_63 : decode cX1_subjects 63 = .ok (.ishl, 1) := by decide +kernel
theorem dX1_subjects_64 : decode cX1_subjects 64 = .ok (.goto 4, 3) := by decide +kernel
theorem dX1_subjects_67 : decode cX1_subjects 67 = .ok (.iconst 0, 1) := by decide +kernel
theorem dX1_subjects_68 : decode cX1_subjects 68 = .ok (.ior, 1) := by decide +kernel
theorem dX1_subjects_69 : decode cX1_subjects 69 = .ok (.istore_n 2, 1) := by decide +kernel
theorem dX1_subjects_70 : decode cX1_subjects 70 = .ok (.iinc 4 1, 3) := by decide +kernel
theorem dX1_subjects_73 : decode cX1_subjects 73 = .ok (.goto (-44), 3) := by decide +kernel
theorem dX1_subjects_76 : decode cX1_subjects 76 = .ok (.iload_n 2, 1) := by decide +kernel
theorem dX1_subjects_77 : decode cX1_subjects 77 = .ok (.ireturn, 1) := by decide +kernel
set_option maxRecDepth 20000 in
theorem ggX1_aboveOf_X1_has : GoodIn wsX1_aboveOf wsX1_has := goodIn_r _ [5] (by decide +kernel) (by decide +kernel)
set_option maxRecDepth 20000 in
theorem gX1_aboveOf_X1_has : GoodIn wsX1_aboveOf (va_wsS RX1 69 yX1_has wsX1_has) := goodIn_app (goodIn_of _ (by decide +kernel)) ggX1_aboveOf_X1_has
theorem dX1_aboveOf_0 : decode cX1_aboveOf 0 = .ok (.aload_n 0, 1) := by decide +kernel
theorem dX1_aboveOf_1 : decode cX1_aboveOf 1 = .ok (.getfield 26, 3) := by decide +kernel
theorem dX1_aboveOf_4 : decode cX1_aboveOf 4 = .ok (.iload_n 1, 1) := by decide +kernel
theorem dX1_aboveOf_5 : decode cX1_aboveOf 5 = .ok (.iaload, 1) := by decide +kernel
theorem dX1_aboveOf_6 : decode cX1_aboveOf 6 = .ok (.istore_n 2, 1) := by decide +kernel
theorem dX1_aboveOf_7 : decode cX1_aboveOf 7 = .ok (.iload_n 1, 1) := by decide +kernel
theorem dX1_aboveOf_8 : decode cX1_aboveOf 8 = .ok (.iconst 1, 1) := by decide +kernel
theorem dX1_aboveOf_9 : decode cX1_aboveOf 9 = .ok (.isub, 1) := by decide +kernel
theorem dX1_aboveOf_10 : decode cX1_aboveOf 10 = .ok (.istore_n 3, 1) := by decide +kernel
theorem dX1_aboveOf_11 : decode cX1_aboveOf 11 = .ok (.iload_n 3, 1) := by decide +kernel
theorem dX1_aboveOf_12 : decode cX1_aboveOf 12 = .ok (.ifCond .lt 30, 3) := by decide +kernel
theorem dX1_aboveOf_15 : decode cX1_aboveOf 15 = .ok (.iload_n 2, 1) := by decide +kernel
theorem dX1_aboveOf_16 : decode cX1_aboveOf 16 = .ok (.iload_n 2, 1) := by decide +kernel
theorem dX1_aboveOf_17 : decode cX1_aboveOf 17 = .ok (.iload_n 3, 1) := by decide +kernel
theorem dX1_aboveOf_18 : decode cX1_aboveOf 18 = .ok (.invokestatic 69, 3) := by decide +kernel
theorem dX1_aboveOf_21 : decode cX1_aboveOf 21 = .ok (.ifCond .eq 12, 3) := by decide +kernel
theorem dX1_aboveOf_24 : decode cX1_aboveOf 24 = .ok (.aload_n 0, 1) := by decide +kernel
theorem dX1_aboveOf_25 : decode cX1_aboveOf 25 = .ok (.getfield 26, 3) := by decide +kernel
theorem dX1_aboveOf_28 : decode cX1_aboveOf 28 = .ok (.iload_n 3, 1) := by decide +kernel
theorem dX1_aboveOf_29 : decode cX1_aboveOf 29 = .ok (.iaload, 1) := by decide +kernel
theorem dX1_aboveOf_30 : decode cX1_aboveOf 30 = .ok (.goto 4, 3) := by decide +kernel
theorem dX1_aboveOf_33 : decode cX1_aboveOf 33 = .ok (.iconst 0, 1) := by decide +kernel
theorem dX1_aboveOf_34 : decode cX1_aboveOf 34 = .ok (.ior, 1) := by decide +kernel
theorem dX1_aboveOf_35 : decode cX1_aboveOf 35 = .ok (.istore_n 2, 1) := by decide +kernel
theorem dX1_aboveOf_36 : decode cX1_aboveOf 36 = .ok (.iinc 3 (-1), 3) := by decide +kernel
theorem dX1_aboveOf_39 : decode cX1_aboveOf 39 = .ok (.goto (-28), 3) := by decide +kernel
theorem dX1_aboveOf_42 : decode cX1_aboveOf 42 = .ok (.iload_n 2, 1) := by decide +kernel
theorem dX1_aboveOf_43 : decode cX1_aboveOf 43 = .ok (.ireturn, 1) := by decide +kernel
set_option maxRecDepth 20000 in
theorem ggX1_belowOf_X1_has : GoodIn wsX1_belowOf wsX1_has := goodIn_r _ [6] (by decide +kernel) (by decide +kernel)
set_option maxRecDepth 20000 in
theorem gX1_belowOf_X1_has : GoodIn wsX1_belowOf (va_wsS RX1 69 yX1_has wsX1_has) := goodIn_app (goodIn_of _ (by decide +kernel)) ggX1_belowOf_X1_has
theorem dX1_belowOf_0 : decode cX1_belowOf 0 = .ok (.iconst 0, 1) := by decide +kernel
theorem dX1_belowOf_1 : decode cX1_belowOf 1 = .ok (.istore_n 2, 1) := by decide +kernel
theorem dX1_belowOf_2 : decode cX1_belowOf 2 = .ok (.iload_n 1, 1) := by decide +kernel
theorem dX1_belowOf_3 : decode cX1_belowOf 3 = .ok (.iconst 1, 1) := by decide +kernel
theorem dX1_belowOf_4 : decode cX1_belowOf 4 = .ok (.iadd, 1) := by decide +kernel
theorem dX1_belowOf_5 : decode cX1_belowOf 5 = .ok (.istore_n 3, 1) := by decide +kernel
theorem dX1_belowOf_6 : decode cX1_belowOf 6 = .ok (.iload_n 3, 1) := by decide +kernel
theorem dX1_belowOf_7 : decode cX1_belowOf 7 = .ok (.aload_n 0, 1) := by decide +kernel
theorem dX1_belowOf_8 : decode cX1_belowOf 8 = .ok (.getfield 55, 3) := by decide +kernel
theorem dX1_belowOf_11 : decode cX1_belowOf 11 = .ok (.if_icmp .ge 43, 3) := by decide +kernel
theorem dX1_belowOf_14 : decode cX1_belowOf 14 = .ok (.iload_n 2, 1) := by decide +kernel
theorem dX1_belowOf_15 : decode cX1_belowOf 15 = .ok (.aload_n 0, 1) := by decide +kernel
theorem dX1_belowOf_16 : decode cX1_belowOf 16 = .ok (.getfield 26, 3) := by decide +kernel
theorem dX1_belowOf_19 : decode cX1_belowOf 19 = .ok (.iload_n 3, 1) := by decide +kernel
theorem dX1_belowOf_20 : decode cX1_belowOf 20 = .ok (.iaload, 1) := by decide +kernel
theorem dX1_belowOf_21 : decode cX1_belowOf 21 = .ok (.iload_n 1, 1) := by decide +kernel
theorem dX1_belowOf_22 : decode cX1_belowOf 22 = .ok (.invokestatic 69, 3) := by decide +kernel
theorem dX1_belowOf_25 : decode cX1_belowOf 25 = .ok (.ifCond .ne 14, 3) := by decide +kernel
theorem dX1_belowOf_28 : decode cX1_belowOf 28 = .ok (.aload_n 0, 1) := by decide +kernel
theorem dX1_belowOf_29 : decode cX1_belowOf 29 = .ok (.getfield 26, 3) := by decide +kernel
theorem dX1_belowOf_32 : decode cX1_belowOf 32 = .ok (.iload_n 3, 1) := by decide +kernel
theorem dX1_belowOf_33 : decode cX1_belowOf 33 = .ok (.iaload, 1) := by decide +kernel
theorem dX1_belowOf_34 : decode cX1_belowOf 34 = .ok (.iload_n 2, 1) := by decide +kernel
theorem dX1_belowOf_35 : decode cX1_belowOf 35 = .ok (.iand, 1) := by decide +kernel
theorem dX1_belowOf_36 : decode cX1_belowOf 36 = .ok (.ifCond .eq 9, 3) := by decide +kernel
theorem dX1_belowOf_39 : decode cX1_belowOf 39 = .ok (.iconst 1, 1) := by decide +kernel
theorem dX1_belowOf_40 : decode cX1_belowOf 40 = .ok (.iload_n 3, 1) := by decide +kernel
theorem dX1_belowOf_41 : decode cX1_belowOf 41 = .ok (.ishl, 1) := by decide +kernel
theorem dX1_belowOf_42 : decode cX1_belowOf 42 = .ok (.goto 4, 3) := by decide +kernel
theorem dX1_belowOf_45 : decode cX1_belowOf 45 = .ok (.iconst 0, 1) := by decide +kernel
theorem dX1_belowOf_46 : decode cX1_belowOf 46 = .ok (.ior, 1) := by decide +kernel
theorem dX1_belowOf_47 : decode cX1_belowOf 47 = .ok (.istore_n 2, 1) := by decide +kernel
theorem dX1_belowOf_48 : decode cX1_belowOf 48 = .ok (.iinc 3 1, 3) := by decide +kernel
theorem dX1_belowOf_51 : decode cX1_belowOf 51 = .ok (.goto (-45), 3) := by decide +kernel
theorem dX1_belowOf_54 : decode cX1_belowOf 54 = .ok (.iload_n 2, 1) := by decide +kernel
theorem dX1_belowOf_55 : decode cX1_belowOf 55 = .ok (.ireturn, 1) := by decide +kernel
set_option maxRecDepth 20000 in
theorem ggX1_isAllowed_X1_has : GoodIn wsX1_isAllowed wsX1_has := goodIn_r _ [6] (by decide +kernel) (by decide +kernel)
set_option maxRecDepth 20000 in
theorem gX1_isAllowed_X1_has : GoodIn wsX1_isAllowed (va_wsS RX1 69 yX1_has wsX1_has) := goodIn_app (goodIn_of _ (by decide +kernel)) ggX1_isAllowed_X1_has
theorem dX1_isAllowed_0 : decode cX1_isAllowed 0 = .ok (.iconst 1, 1) := by decide +kernel
theorem dX1_isAllowed_1 : decode cX1_isAllowed 1 = .ok (.istore_n 3, 1) := by decide +kernel
theorem dX1_isAllowed_2 : decode cX1_isAllowed 2 = .ok (.iconst 0, 1) := by decide +kernel
theorem dX1_isAllowed_3 : decode cX1_isAllowed 3 = .ok (.istore 4, 2) := by decide +kernel
theorem dX1_isAllowed_5 : decode cX1_isAllowed 5 = .ok (.iload 4, 2) := by decide +kernel
theorem dX1_isAllowed_7 : decode cX1_isAllowed 7 = .ok (.bipush 12, 2) := by decide +kernel
theorem dX1_isAllowed_9 : decode cX1_isAllowed 9 = .ok (.if_icmp .ge 51, 3) := by decide +kernel
theorem dX1_isAllowed_12 : decode cX1_isAllowed 12 = .ok (.aload_n 0, 1) := by decide +kernel
theorem dX1_isAllowed_13 : decode cX1_isAllowed 13 = .ok (.getfield 13, 3) := by decide +kernel
theorem dX1_isAllowed_16 : decode cX1_isAllowed 16 = .ok (.iload_n 1, 1) := by decide +kernel
theorem dX1_isAllowed_17 : decode cX1_isAllowed 17 = .ok (.baload, 1) := by decide +kernel
theorem dX1_isAllowed_18 : decode cX1_isAllowed 18 = .ok (.ifCond .eq 42, 3) := by decide +kernel
theorem dX1_isAllowed_21 : decode cX1_isAllowed 21 = .ok (.iload_n 3, 1) := by decide +kernel
theorem dX1_isAllowed_22 : decode cX1_isAllowed 22 = .ok (.ifCond .eq 30, 3) := by decide +kernel
theorem dX1_isAllowed_25 : decode cX1_isAllowed 25 = .ok (.iload_n 2, 1) := by decide +kernel
theorem dX1_isAllowed_26 : decode cX1_isAllowed 26 = .ok (.iload 4, 2) := by decide +kernel
theorem dX1_isAllowed_28 : decode cX1_isAllowed 28 = .ok (.invokestatic 69, 3) := by decide +kernel
theorem dX1_isAllowed_31 : decode cX1_isAllowed 31 = .ok (.ifCond .eq 17, 3) := by decide +kernel
theorem dX1_isAllowed_34 : decode cX1_isAllowed 34 = .ok (.aload_n 0, 1) := by decide +kernel
theorem dX1_isAllowed_35 : decode cX1_isAllowed 35 = .ok (.getfield 17, 3) := by decide +kernel
theorem dX1_isAllowed_38 : decode cX1_isAllowed 38 = .ok (.iload 4, 2) := by decide +kernel
theorem dX1_isAllowed_40 : decode cX1_isAllowed 40 = .ok (.iaload, 1) := by decide +kernel
theorem dX1_isAllowed_41 : decode cX1_isAllowed 41 = .ok (.iload_n 1, 1) := by decide +kernel
theorem dX1_isAllowed_42 : decode cX1_isAllowed 42 = .ok (.invokestatic 69, 3) := by decide +kernel
theorem dX1_isAllowed_45 : decode cX1_isAllowed 45 = .ok (.ifCond .eq 7, 3) := by decide +kernel
theorem dX1_isAllowed_48 : decode cX1_isAllowed 48 = .ok (.iconst 1, 1) := by decide +kernel
theorem dX1_isAllowed_49 : decode cX1_isAllowed 49 = .ok (.goto 4, 3) := by decide +kernel
theorem dX1_isAllowed_52 : decode cX1_isAllowed 52 = .ok (.iconst 0, 1) := by decide +kernel
theorem dX1_isAllowed_53 : decode cX1_isAllowed 53 = .ok (.istore_n 3, 1) := by decide +kernel
theorem dX1_isAllowed_54 : decode cX1_isAllowed 54 = .ok (.iinc 4 1, 3) := by decide +kernel
theorem dX1_isAllowed_57 : decode cX1_isAllowed 57 = .ok (.goto (-52), 3) := by decide +kernel
theorem dX1_isAllowed_60 : decode cX1_isAllowed 60 = .ok (.iload_n 3, 1) := by decide +kernel
theorem dX1_isAllowed_61 : decode cX1_isAllowed 61 = .ok (.ireturn, 1) := by decide +kernel
set_option maxRecDepth 20000 in
theorem ggX1_endBy_X1_has : GoodIn wsX1_endBy wsX1_has := goodIn_r _ [6] (by decide +kernel) (by decide +kernel)
set_option maxRecDepth 20000 in
theorem gX1_endBy_X1_has : GoodIn wsX1_endBy (va_wsS RX1 69 yX1_has wsX1_has) := goodIn_app (goodIn_of _ (by decide +kernel)) ggX1_endBy_X1_has
set_option maxRecDepth 20000 in
theorem ggX1_endBy_X1_isAllowed : GoodIn wsX1_endBy wsX1_isAllowed := goodIn_r _ [10, 11, 12, 3, 4, 5, 6, 13, 14, 15, 16, 17, 18, 19, 20, 21, 22, 23, 24, 25, 26, 27] (by decide +kernel) (by decide +kernel)
set_option maxRecDepth 20000 in
theorem gX1_endBy_X1_isAllowed : GoodIn wsX1_endBy (wsV RX1 76 RX1 yX1_isAllowed wsX1_isAllowed) := goodIn_app (goodIn_of _ (by decide +kernel)) ggX1_endBy_X1_isAllowed
theorem dX1_endBy_0 : decode cX1_endBy 0 = .ok (.iload_n 3, 1) := by decide +kernel
theorem dX1_endBy_1 : decode cX1_endBy 1 = .ok (.istore 4, 2) := by decide +kernel
theorem dX1_endBy_3 : decode cX1_endBy 3 = .ok (.iconst 0, 1) := by decide +kernel
theorem dX1_endBy_4 : decode cX1_endBy 4 = .ok (.istore 5, 2) := by decide +kernel
theorem dX1_endBy_6 : decode cX1_endBy 6 = .ok (.iload 5, 2) := by decide +kernel
theorem dX1_endBy_8 : decode cX1_endBy 8 = .ok (.aload_n 0, 1) := by decide +kernel
theorem dX1_endBy_9 : decode cX1_endBy 9 = .ok (.getfield 52, 3) := by decide +kernel
theorem dX1_endBy_12 : decode cX1_endBy 12 = .ok (.if_icmp .ge 58, 3) := by decide +kernel
theorem dX1_endBy_15 : decode cX1_endBy 15 = .ok (.iload_n 1, 1) := by decide +kernel
theorem dX1_endBy_16 : decode cX1_endBy 16 = .ok (.iload 5, 2) := by decide +kernel
theorem dX1_endBy_18 : decode cX1_endBy 18 = .ok (.invokestatic 69, 3) := by decide +kernel
theorem dX1_endBy_21 : decode cX1_endBy 21 = .ok (.ifCond .eq 39, 3) := by decide +kernel
theorem dX1_endBy_24 : decode cX1_endBy 24 = .ok (.aload_n 0, 1) := by decide +kernel
theorem dX1_endBy_25 : decode cX1_endBy 25 = .ok (.iload 5, 2) := by decide +kernel
theorem dX1_endBy_27 : decode cX1_endBy 27 = .ok (.iload_n 2, 1) := by decide +kernel
theorem dX1_endBy_28 : decode cX1_endBy 28 = .ok (.invokevirtual 76, 3) := by decide +kernel
theorem dX1_endBy_31 : decode cX1_endBy 31 = .ok (.ifCond .eq 29, 3) := by decide +kernel
theorem dX1_endBy_34 : decode cX1_endBy 34 = .ok (.iload_n 3, 1) := by decide +kernel
theorem dX1_endBy_35 : decode cX1_endBy 35 = .ok (.aload_n 0, 1) := by decide +kernel
theorem dX1_endBy_36 : decode cX1_endBy 36 = .ok (.getfield 7, 3) := by decide +kernel
theorem dX1_endBy_39 : decode cX1_endBy 39 = .ok (.iload 5, 2) := by decide +kernel
theorem dX1_endBy_41 : decode cX1_endBy 41 = .ok (.iaload, 1) := by decide +kernel
theorem dX1_endBy_42 : decode cX1_endBy 42 = .ok (.iadd, 1) := by decide +kernel
theorem dX1_endBy_43 : decode cX1_endBy 43 = .ok (.iload 4, 2) := by decide +kernel
theorem dX1_endBy_45 : decode cX1_endBy 45 = .ok (.if_icmp .le 15, 3) := by decide +kernel
theorem dX1_endBy_48 : decode cX1_endBy 48 = .ok (.iload_n 3, 1) := by decide +kernel
theorem dX1_endBy_49 : decode cX1_endBy 49 = .ok (.aload_n 0, 1) := by decide +kernel
theorem dX1_endBy_50 : decode cX1_endBy 50 = .ok (.getfield 7, 3) := by decide +kernel
theorem dX1_endBy_53 : decode cX1_endBy 53 = .ok (.iload 5, 2) := by decide +kernel
theorem dX1_endBy_55 : decode cX1_endBy 55 = .ok (.iaload, 1) := by decide +kernel
theorem dX1_endBy_56 : decode cX1_endBy 56 = .ok (.iadd, 1) := by decide +kernel
theorem dX1_endBy_57 : decode cX1_endBy 57 = .ok (.goto 5, 3) := by decide +kernel
theorem dX1_endBy_60 : decode cX1_endBy 60 = .ok (.iload 4, 2) := by decide +kernel
theorem dX1_endBy_62 : decode cX1_endBy 62 = .ok (.istore 4, 2) := by decide +kernel
theorem dX1_endBy_64 : decode cX1_endBy 64 = .ok (.iinc 5 1, 3) := by decide +kernel
theorem dX1_endBy_67 : decode cX1_endBy 67 = .ok (.goto (-61), 3) := by decide +kernel
theorem dX1_endBy_70 : decode cX1_endBy 70 = .ok (.iload 4, 2) := by decide +kernel
theorem dX1_endBy_72 : decode cX1_endBy 72 = .ok (.ireturn, 1) := by decide +kernel
set_option maxRecDepth 20000 in
theorem ggX1_end_X1_subjects : GoodIn wsX1_end wsX1_subjects := goodIn_r _ [7, 8, 9, 10, 11, 12, 6, 13, 14, 15, 16, 29, 30, 31, 32, 33, 34, 35, 36, 37, 38, 39, 40, 41, 42, 43] (by decide +kernel) (by decide +kernel)
set_option maxRecDepth 20000 in
theorem gX1_end_X1_subjects : GoodIn wsX1_end (wsV RX1 79 RX1 yX1_subjects wsX1_subjects) := goodIn_app (goodIn_of _ (by decide +kernel)) ggX1_end_X1_subjects
set_option maxRecDepth 20000 in
theorem ggX1_end_X1_endBy : GoodIn wsX1_end wsX1_endBy := goodIn_r _ [20, 21, 22, 14, 15, 6, 16, 23, 24, 25, 26, 27, 28, 29, 30, 31, 32, 33, 34, 35, 36, 37, 38, 39, 40, 41, 42, 43] (by decide +kernel) (by decide +kernel)
set_option maxRecDepth 20000 in
theorem gX1_end_X1_endBy : GoodIn wsX1_end (wsV RX1 82 RX1 yX1_endBy wsX1_endBy) := goodIn_app (goodIn_of _ (by decide +kernel)) ggX1_end_X1_endBy
theorem dX1_end_0 : decode cX1_end 0 = .ok (.aload_n 0, 1) := by decide +kernel
theorem dX1_end_1 : decode cX1_end 1 = .ok (.aload_n 0, 1) := by decide +kernel
theorem dX1_end_2 : decode cX1_end 2 = .ok (.getfield 29, 3) := by decide +kernel
theorem dX1_end_5 : decode cX1_end 5 = .ok (.iload_n 1, 1) := by decide +kernel
theorem dX1_end_6 : decode cX1_end 6 = .ok (.iaload, 1) := by decide +kernel
theorem dX1_end_7 : decode cX1_end 7 = .ok (.aload_n 0, 1) := by decide +kernel
theorem dX1_end_8 : decode cX1_end 8 = .ok (.iload_n 1, 1) := by decide +kernel
theorem dX1_end_9 : decode cX1_end 9 = .ok (.invokevirtual 79, 3) := by decide +kernel
theorem dX1_end_12 : decode cX1_end 12 = .ok (.aload_n 0, 1) := by decide +kernel
theorem dX1_end_13 : decode cX1_end 13 = .ok (.getfield 32, 3) := by decide +kernel
theorem dX1_end_16 : decode cX1_end 16 = .ok (.iload_n 1, 1) := by decide +kernel
theorem dX1_end_17 : decode cX1_end 17 = .ok (.iaload, 1) := by decide +kernel
theorem dX1_end_18 : decode cX1_end 18 = .ok (.invokevirtual 82, 3) := by decide +kernel
theorem dX1_end_21 : decode cX1_end 21 = .ok (.ireturn, 1) := by decide +kernel
theorem dX1_lays_0 : decode cX1_lays 0 = .ok (.aload_n 0, 1) := by decide +kernel
theorem dX1_lays_1 : decode cX1_lays 1 = .ok (.getfield 23, 3) := by decide +kernel
theorem dX1_lays_4 : decode cX1_lays 4 = .ok (.aload_n 0, 1) := by decide +kernel
theorem dX1_lays_5 : decode cX1_lays 5 = .ok (.getfield 55, 3) := by decide +kernel
theorem dX1_lays_8 : decode cX1_lays 8 = .ok (.iload_n 1, 1) := by decide +kernel
theorem dX1_lays_9 : decode cX1_lays 9 = .ok (.iastore, 1) := by decide +kernel
theorem dX1_lays_10 : decode cX1_lays 10 = .ok (.aload_n 0, 1) := by decide +kernel
theorem dX1_lays_11 : decode cX1_lays 11 = .ok (.getfield 26, 3) := by decide +kernel
theorem dX1_lays_14 : decode cX1_lays 14 = .ok (.aload_n 0, 1) := by decide +kernel
theorem dX1_lays_15 : decode cX1_lays 15 = .ok (.getfield 55, 3) := by decide +kernel
theorem dX1_lays_18 : decode cX1_lays 18 = .ok (.iload_n 2, 1) := by decide +kernel
theorem dX1_lays_19 : decode cX1_lays 19 = .ok (.iastore, 1) := by decide +kernel
theorem dX1_lays_20 : decode cX1_lays 20 = .ok (.aload_n 0, 1) := by decide +kernel
theorem dX1_lays_21 : decode cX1_lays 21 = .ok (.getfield 29, 3) := by decide +kernel
theorem dX1_lays_24 : decode cX1_lays 24 = .ok (.aload_n 0, 1) := by decide +kernel
theorem dX1_lays_25 : decode cX1_lays 25 = .ok (.getfield 55, 3) := by decide +kernel
theorem dX1_lays_28 : decode cX1_lays 28 = .ok (.iload_n 3, 1) := by decide +kernel
theorem dX1_lays_29 : decode cX1_lays 29 = .ok (.iastore, 1) := by decide +kernel
theorem dX1_lays_30 : decode cX1_lays 30 = .ok (.aload_n 0, 1) := by decide +kernel
theorem dX1_lays_31 : decode cX1_lays 31 = .ok (.getfield 32, 3) := by decide +kernel
theorem dX1_lays_34 : decode cX1_lays 34 = .ok (.aload_n 0, 1) := by decide +kernel
theorem dX1_lays_35 : decode cX1_lays 35 = .ok (.getfield 55, 3) := by decide +kernel
theorem dX1_lays_38 : decode cX1_lays 38 = .ok (.aload_n 0, 1) := by decide +kernel
theorem dX1_lays_39 : decode cX1_lays 39 = .ok (.getfield 86, 3) := by decide +kernel
theorem dX1_lays_42 : decode cX1_lays 42 = .ok (.iastore, 1) := by decide +kernel
theorem dX1_lays_43 : decode cX1_lays 43 = .ok (.aload_n 0, 1) := by decide +kernel
theorem dX1_lays_44 : decode cX1_lays 44 = .ok (.getfield 35, 3) := by decide +kernel
theorem dX1_lays_47 : decode cX1_lays 47 = .ok (.aload_n 0, 1) := by decide +kernel
theorem dX1_lays_48 : decode cX1_lays 48 = .ok (.getfield 55, 3) := by decide +kernel
theorem dX1_lays_51 : decode cX1_lays 51 = .ok (.iconst 0, 1) := by decide +kernel
theorem dX1_lays_52 : decode cX1_lays 52 = .ok (.iastore, 1) := by decide +kernel
theorem dX1_lays_53 : decode cX1_lays 53 = .ok (.aload_n 0, 1) := by decide +kernel
theorem dX1_lays_54 : decode cX1_lays 54 = .ok (.dup, 1) := by decide +kernel
theorem dX1_lays_55 : decode cX1_lays 55 = .ok (.getfield 55, 3) := by decide +kernel
theorem dX1_lays_58 : decode cX1_lays 58 = .ok (.iconst 1, 1) := by decide +kernel
theorem dX1_lays_59 : decode cX1_lays 59 = .ok (.iadd, 1) := by decide +kernel
theorem dX1_lays_60 : decode cX1_lays 60 = .ok (.putfield 55, 3) := by decide +kernel
theorem dX1_lays_63 : decode cX1_lays 63 = .ok (.aload_n 0, 1) := by decide +kernel
theorem dX1_lays_64 : decode cX1_lays 64 = .ok (.getfield 55, 3) := by decide +kernel
theorem dX1_lays_67 : decode cX1_lays 67 = .ok (.iconst 1, 1) := by decide +kernel
theorem dX1_lays_68 : decode cX1_lays 68 = .ok (.isub, 1) := by decide +kernel
theorem dX1_lays_69 : decode cX1_lays 69 = .ok (.ireturn, 1) := by decide +kernel
set_option maxRecDepth 20000 in
theorem ggX1_add_X1_isSubject : GoodIn wsX1_add wsX1_isSubject := goodIn_r _ [7, 8, 9, 6, 10] (by decide +kernel) (by decide +kernel)
set_option maxRecDepth 20000 in
theorem gX1_add_X1_isSubject : GoodIn wsX1_add (va_wsS RX1 66 yX1_isSubject wsX1_isSubject) := goodIn_app (goodIn_of _ (by decide +kernel)) ggX1_add_X1_isSubject
set_option maxRecDepth 20000 in
theorem ggX1_add_X1_isSet : GoodIn wsX1_add wsX1_isSet := goodIn_r _ [14, 15, 8, 9, 6, 10, 43, 44, 45, 46, 47, 48, 49, 50, 51, 52, 53, 54, 55, 56, 57] (by decide +kernel) (by decide +kernel)
set_option maxRecDepth 20000 in
theorem gX1_add_X1_isSet : GoodIn wsX1_add (wsV RX1 89 RX1 yX1_isSet wsX1_isSet) := goodIn_app (goodIn_of _ (by decide +kernel)) ggX1_add_X1_isSet
set_option maxRecDepth 20000 in
theorem ggX1_add_X1_fails : GoodIn wsX1_add wsX1_fails := goodIn_r _ [19, 1, 43, 44, 45, 46, 47, 48, 49, 50, 51, 52, 53, 54, 55, 56, 57] (by decide +kernel) (by decide +kernel)
set_option maxRecDepth 20000 in
theorem gX1_add_X1_fails : GoodIn wsX1_add (wsV RX1 58 RX1 yX1_fails wsX1_fails) := goodIn_app (goodIn_of _ (by decide +kernel)) ggX1_add_X1_fails
set_option maxRecDepth 20000 in
theorem ggX1_add_X1_endBy : GoodIn wsX1_add wsX1_endBy := goodIn_r _ [23, 15, 24, 25, 26, 6, 27, 28, 29, 30, 31, 32, 33, 43, 44, 45, 46, 47, 48, 49, 50, 51, 52, 53, 54, 55, 56, 57] (by decide +kernel) (by decide +kernel)
set_option maxRecDepth 20000 in
theorem gX1_add_X1_endBy : GoodIn wsX1_add (wsV RX1 82 RX1 yX1_endBy wsX1_endBy) := goodIn_app (goodIn_of _ (by decide +kernel)) ggX1_add_X1_endBy
set_option maxRecDepth 20000 in
theorem ggX1_add_X1_lays : GoodIn wsX1_add wsX1_lays := goodIn_r _ [37, 38, 2, 39, 40, 41, 3, 42, 43, 44, 45, 46, 47, 48, 49, 50, 51, 52, 53, 54, 55, 56, 57] (by decide +kernel) (by decide +kernel)
set_option maxRecDepth 20000 in
theorem gX1_add_X1_lays : GoodIn wsX1_add (wsV RX1 92 RX1 yX1_lays wsX1_lays) := goodIn_app (goodIn_of _ (by decide +kernel)) ggX1_add_X1_lays
theorem dX1_add_0 : decode cX1_add 0 = .ok (.aload_n 0, 1) := by decide +kernel
theorem dX1_add_1 : decode cX1_add 1 = .ok (.iconst 0, 1) := by decide +kernel
theorem dX1_add_2 : decode cX1_add 2 = .ok (.putfield 44, 3) := by decide +kernel
theorem dX1_add_5 : decode cX1_add 5 = .ok (.iload_n 1, 1) := by decide +kernel
theorem dX1_add_6 : decode cX1_add 6 = .ok (.invokestatic 66, 3) := by decide +kernel
theorem dX1_add_9 : decode cX1_add 9 = .ok (.ifCond .eq 11, 3) := by decide +kernel
theorem dX1_add_12 : decode cX1_add 12 = .ok (.aload_n 0, 1) := by decide +kernel
theorem dX1_add_13 : decode cX1_add 13 = .ok (.iload_n 2, 1) := by decide +kernel
theorem dX1_add_14 : decode cX1_add 14 = .ok (.invokevirtual 89, 3) := by decide +kernel
theorem dX1_add_17 : decode cX1_add 17 = .ok (.ifCond .ne 9, 3) := by decide +kernel
theorem dX1_add_20 : decode cX1_add 20 = .ok (.aload_n 0, 1) := by decide +kernel
theorem dX1_add_21 : decode cX1_add 21 = .ok (.iconst 1, 1) := by decide +kernel
theorem dX1_add_22 : decode cX1_add 22 = .ok (.invokevirtual 58, 3) := by decide +kernel
theorem dX1_add_25 : decode cX1_add 25 = .ok (.ireturn, 1) := by decide +kernel
theorem dX1_add_26 : decode cX1_add 26 = .ok (.iload_n 2, 1) := by decide +kernel
theorem dX1_add_27 : decode cX1_add 27 = .ok (.ifCond .ne 9, 3) := by decide +kernel
theorem dX1_add_30 : decode cX1_add 30 = .ok (.aload_n 0, 1) := by decide +kernel
theorem dX1_add_31 : decode cX1_add 31 = .ok (.iconst 2, 1) := by decide +kernel
theorem dX1_add_32 : decode cX1_add 32 = .ok (.invokevirtual 58, 3) := by decide +kernel
theorem dX1_add_35 : decode cX1_add 35 = .ok (.ireturn, 1) := by decide +kernel
theorem dX1_add_36 : decode cX1_add 36 = .ok (.aload_n 0, 1) := by decide +kernel
theorem dX1_add_37 : decode cX1_add 37 = .ok (.getfield 55, 3) := by decide +kernel
theorem dX1_add_40 : decode cX1_add 40 = .ok (.bipush 30, 2) := by decide +kernel
theorem dX1_add_42 : decode cX1_add 42 = .ok (.if_icmp .eq 22, 3) := by decide +kernel
theorem dX1_add_45 : decode cX1_add 45 = .ok (.aload_n 0, 1) := by decide +kernel
theorem dX1_add_46 : decode cX1_add 46 = .ok (.iload_n 2, 1) := by decide +kernel
theorem dX1_add_47 : decode cX1_add 47 = .ok (.iconst 1, 1) := by decide +kernel
theorem dX1_add_48 : decode cX1_add 48 = .ok (.iload_n 1, 1) := by decide +kernel
theorem dX1_add_49 : decode cX1_add 49 = .ok (.ishl, 1) := by decide +kernel
theorem dX1_add_50 : decode cX1_add 50 = .ok (.aload_n 0, 1) := by decide +kernel
theorem dX1_add_51 : decode cX1_add 51 = .ok (.getfield 86, 3) := by decide +kernel
theorem dX1_add_54 : decode cX1_add 54 = .ok (.invokevirtual 82, 3) := by decide +kernel
theorem dX1_add_57 : decode cX1_add 57 = .ok (.aload_n 0, 1) := by decide +kernel
theorem dX1_add_58 : decode cX1_add 58 = .ok (.getfield 86, 3) := by decide +kernel
theorem dX1_add_61 : decode cX1_add 61 = .ok (.if_icmp .gt 9, 3) := by decide +kernel
theorem dX1_add_64 : decode cX1_add 64 = .ok (.aload_n 0, 1) := by decide +kernel
theorem dX1_add_65 : decode cX1_add 65 = .ok (.iconst 3, 1) := by decide +kernel
theorem dX1_add_66 : decode cX1_add 66 = .ok (.invokevirtual 58, 3) := by decide +kernel
theorem dX1_add_69 : decode cX1_add 69 = .ok (.ireturn, 1) := by decide +kernel
theorem dX1_add_70 : decode cX1_add 70 = .ok (.aload_n 0, 1) := by decide +kernel
theorem dX1_add_71 : decode cX1_add 71 = .ok (.iload_n 1, 1) := by decide +kernel
theorem dX1_add_72 : decode cX1_add 72 = .ok (.iconst 0, 1) := by decide +kernel
theorem dX1_add_73 : decode cX1_add 73 = .ok (.iload_n 2, 1) := by decide +kernel
theorem dX1_add_74 : decode cX1_add 74 = .ok (.invokevirtual 92, 3) := by decide +kernel
theorem dX1_add_77 : decode cX1_add 77 = .ok (.ireturn, 1) := by decide +kernel
set_option maxRecDepth 20000 in
theorem ggX1_derive_X1_isRecord : GoodIn wsX1_derive wsX1_isRecord := goodIn_r _ [9, 2, 10, 11, 8, 12, 52, 53, 54, 55, 56, 57, 58, 59, 60, 61, 62, 63, 64, 65, 66] (by decide +kernel) (by decide +kernel)
set_option maxRecDepth 20000 in
theorem gX1_derive_X1_isRecord : GoodIn wsX1_derive (wsV RX1 95 RX1 yX1_isRecord wsX1_isRecord) := goodIn_app (goodIn_of _ (by decide +kernel)) ggX1_derive_X1_isRecord
set_option maxRecDepth 20000 in
theorem ggX1_derive_X1_isSet : GoodIn wsX1_derive wsX1_isSet := goodIn_r _ [16, 17, 10, 11, 8, 12, 52, 53, 54, 55, 56, 57, 58, 59, 60, 61, 62, 63, 64, 65, 66] (by decide +kernel) (by decide +kernel)
set_option maxRecDepth 20000 in
theorem gX1_derive_X1_isSet : GoodIn wsX1_derive (wsV RX1 89 RX1 yX1_isSet wsX1_isSet) := goodIn_app (goodIn_of _ (by decide +kernel)) ggX1_derive_X1_isSet
set_option maxRecDepth 20000 in
theorem ggX1_derive_X1_fails : GoodIn wsX1_derive wsX1_fails := goodIn_r _ [21, 1, 52, 53, 54, 55, 56, 57, 58, 59, 60, 61, 62, 63, 64, 65, 66] (by decide +kernel) (by decide +kernel)
set_option maxRecDepth 20000 in
theorem gX1_derive_X1_fails : GoodIn wsX1_derive (wsV RX1 58 RX1 yX1_fails wsX1_fails) := goodIn_app (goodIn_of _ (by decide +kernel)) ggX1_derive_X1_fails
set_option maxRecDepth 20000 in
theorem ggX1_derive_X1_subjects : GoodIn wsX1_derive wsX1_subjects := goodIn_r _ [25, 26, 27, 28, 29, 30, 8, 31, 32, 33, 34, 52, 53, 54, 55, 56, 57, 58, 59, 60, 61, 62, 63, 64, 65, 66] (by decide +kernel) (by decide +kernel)
set_option maxRecDepth 20000 in
theorem gX1_derive_X1_subjects : GoodIn wsX1_derive (wsV RX1 79 RX1 yX1_subjects wsX1_subjects) := goodIn_app (goodIn_of _ (by decide +kernel)) ggX1_derive_X1_subjects
set_option maxRecDepth 20000 in
theorem ggX1_derive_X1_endBy : GoodIn wsX1_derive wsX1_endBy := goodIn_r _ [38, 17, 39, 32, 33, 8, 34, 40, 41, 42, 43, 44, 45, 52, 53, 54, 55, 56, 57, 58, 59, 60, 61, 62, 63, 64, 65, 66] (by decide +kernel) (by decide +kernel)
set_option maxRecDepth 20000 in
theorem gX1_derive_X1_endBy : GoodIn wsX1_derive (wsV RX1 82 RX1 yX1_endBy wsX1_endBy) := goodIn_app (goodIn_of _ (by decide +kernel)) ggX1_derive_X1_endBy
set_option maxRecDepth 20000 in
theorem ggX1_derive_X1_lays : GoodIn wsX1_derive wsX1_lays := goodIn_r _ [49, 27, 2, 26, 50, 51, 4, 3, 52, 53, 54, 55, 56, 57, 58, 59, 60, 61, 62, 63, 64, 65, 66] (by decide +kernel) (by decide +kernel)
set_option maxRecDepth 20000 in
theorem gX1_derive_X1_lays : GoodIn wsX1_derive (wsV RX1 92 RX1 yX1_lays wsX1_lays) := goodIn_app (goodIn_of _ (by decide +kernel)) ggX1_derive_X1_lays
theorem dX1_derive_0 : decode cX1_derive 0 = .ok (.aload_n 0, 1) := by decide +kernel
theorem dX1_derive_1 : decode cX1_derive 1 = .ok (.iconst 0, 1) := by decide +kernel
theorem dX1_derive_2 : decode cX1_derive 2 = .ok (.putfield 44, 3) := by decide +kernel
theorem dX1_derive_5 : decode cX1_derive 5 = .ok (.aload_n 0, 1) := by decide +kernel
theorem dX1_derive_6 : decode cX1_derive 6 = .ok (.iload_n 1, 1) := by decide +kernel
theorem dX1_derive_7 : decode cX1_derive 7 = .ok (.invokevirtual 95, 3) := by decide +kernel
theorem dX1_derive_10 : decode cX1_derive 10 = .ok (.ifCond .eq 11, 3) := by decide +kernel
theorem dX1_derive_13 : decode cX1_derive 13 = .ok (.aload_n 0, 1) := by decide +kernel
theorem dX1_derive_14 : decode cX1_derive 14 = .ok (.iload_n 2, 1) := by decide +kernel
theorem dX1_derive_15 : decode cX1_derive 15 = .ok (.invokevirtual 89, 3) := by decide +kernel
theorem dX1_derive_18 : decode cX1_derive 18 = .ok (.ifCond .ne 9, 3) := by decide +kernel
theorem dX1_derive_21 : decode cX1_derive 21 = .ok (.aload_n 0, 1) := by decide +kernel
theorem dX1_derive_22 : decode cX1_derive 22 = .ok (.iconst 1, 1) := by decide +kernel
theorem dX1_derive_23 : decode cX1_derive 23 = .ok (.invokevirtual 58, 3) := by decide +kernel
theorem dX1_derive_26 : decode cX1_derive 26 = .ok (.ireturn, 1) := by decide +kernel
theorem dX1_derive_27 : decode cX1_derive 27 = .ok (.iload_n 2, 1) := by decide +kernel
theorem dX1_derive_28 : decode cX1_derive 28 = .ok (.ifCond .ne 9, 3) := by decide +kernel
theorem dX1_derive_31 : decode cX1_derive 31 = .ok (.aload_n 0, 1) := by decide +kernel
theorem dX1_derive_32 : decode cX1_derive 32 = .ok (.iconst 2, 1) := by decide +kernel
theorem dX1_derive_33 : decode cX1_derive 33 = .ok (.invokevirtual 58, 3) := by decide +kernel
theorem dX1_derive_36 : decode cX1_derive 36 = .ok (.ireturn, 1) := by decide +kernel
theorem dX1_derive_37 : decode cX1_derive 37 = .ok (.aload_n 0, 1) := by decide +kernel
theorem dX1_derive_38 : decode cX1_derive 38 = .ok (.getfield 55, 3) := by decide +kernel
theorem dX1_derive_41 : decode cX1_derive 41 = .ok (.bipush 30, 2) := by decide +kernel
theorem dX1_derive_43 : decode cX1_derive 43 = .ok (.if_icmp .eq 33, 3) := by decide +kernel
theorem dX1_derive_46 : decode cX1_derive 46 = .ok (.aload_n 0, 1) := by decide +kernel
theorem dX1_derive_47 : decode cX1_derive 47 = .ok (.getfield 35, 3) := by decide +kernel
theorem dX1_derive_50 : decode cX1_derive 50 = .ok (.iload_n 1, 1) := by decide +kernel
theorem dX1_derive_51 : decode cX1_derive 51 = .ok (.iaload, 1) := by decide +kernel
theorem dX1_derive_52 : decode cX1_derive 52 = .ok (.ifCond .ne 24, 3) := by decide +kernel
theorem dX1_derive_55 : decode cX1_derive 55 = .ok (.aload_n 0, 1) := by decide +kernel
theorem dX1_derive_56 : decode cX1_derive 56 = .ok (.iload_n 2, 1) := by decide +kernel
theorem dX1_derive_57 : decode cX1_derive 57 = .ok (.aload_n 0, 1) := by decide +kernel
theorem dX1_derive_58 : decode cX1_derive 58 = .ok (.iload_n 1, 1) := by decide +kernel
theorem dX1_derive_59 : decode cX1_derive 59 = .ok (.invokevirtual 79, 3) := by decide +kernel
theorem dX1_derive_62 : decode cX1_derive 62 = .ok (.aload_n 0, 1) := by decide +kernel
theorem dX1_derive_63 : decode cX1_derive 63 = .ok (.getfield 86, 3) := by decide +kernel
theorem dX1_derive_66 : decode cX1_derive 66 = .ok (.invokevirtual 82, 3) := by decide +kernel
theorem dX1_derive_69 : decode cX1_derive 69 = .ok (.aload_n 0, 1) := by decide +kernel
theorem dX1_derive_70 : decode cX1_derive 70 = .ok (.getfield 86, 3) := by decide +kernel
theorem dX1_derive_73 : decode cX1_derive 73 = .ok (.if_icmp .gt 9, 3) := by decide +kernel
theorem dX1_derive_76 : decode cX1_derive 76 = .ok (.aload_n 0, 1) := by decide +kernel
theorem dX1_derive_77 : decode cX1_derive 77 = .ok (.iconst 3, 1) := by decide +kernel
theorem dX1_derive_78 : decode cX1_derive 78 = .ok (.invokevirtual 58, 3) := by decide +kernel
theorem dX1_derive_81 : decode cX1_derive 81 = .ok (.ireturn, 1) := by decide +kernel
theorem dX1_derive_82 : decode cX1_derive 82 = .ok (.aload_n 0, 1) := by decide +kernel
theorem dX1_derive_83 : decode cX1_derive 83 = .ok (.iconst (-1), 1) := by decide +kernel
theorem dX1_derive_84 : decode cX1_derive 84 = .ok (.iconst 1, 1) := by decide +kernel
theorem dX1_derive_85 : decode cX1_derive 85 = .ok (.iload_n 1, 1) := by decide +kernel
theorem dX1_derive_86 : decode cX1_derive 86 = .ok (.ishl, 1) := by decide +kernel
theorem dX1_derive_87 : decode cX1_derive 87 = .ok (.iload_n 2, 1) := by decide +kernel
theorem dX1_derive_88 : decode cX1_derive 88 = .ok (.invokevirtual 92, 3) := by decide +kernel
theorem dX1_derive_91 : decode cX1_derive 91 = .ok (.ireturn, 1) := by decide +kernel
set_option maxRecDepth 20000 in
theorem ggX1_addSource_X1_isRecord : GoodIn wsX1_addSource wsX1_isRecord := goodIn_r _ [8, 9, 10, 11, 7, 12, 32, 33, 34, 35, 36, 37, 38, 39, 40, 41, 42, 43, 44, 45, 46] (by decide +kernel) (by decide +kernel)
set_option maxRecDepth 20000 in
theorem gX1_addSource_X1_isRecord : GoodIn wsX1_addSource (wsV RX1 95 RX1 yX1_isRecord wsX1_isRecord) := goodIn_app (goodIn_of _ (by decide +kernel)) ggX1_addSource_X1_isRecord
set_option maxRecDepth 20000 in
theorem ggX1_addSource_X1_fails : GoodIn wsX1_addSource wsX1_fails := goodIn_r _ [16, 1, 32, 33, 34, 35, 36, 37, 38, 39, 40, 41, 42, 43, 44, 45, 46] (by decide +kernel) (by decide +kernel)
set_option maxRecDepth 20000 in
theorem gX1_addSource_X1_fails : GoodIn wsX1_addSource (wsV RX1 58 RX1 yX1_fails wsX1_fails) := goodIn_app (goodIn_of _ (by decide +kernel)) ggX1_addSource_X1_fails
set_option maxRecDepth 20000 in
theorem ggX1_addSource_X1_has : GoodIn wsX1_addSource wsX1_has := goodIn_r _ [19] (by decide +kernel) (by decide +kernel)
set_option maxRecDepth 20000 in
theorem gX1_addSource_X1_has : GoodIn wsX1_addSource (va_wsS RX1 69 yX1_has wsX1_has) := goodIn_app (goodIn_of _ (by decide +kernel)) ggX1_addSource_X1_has
set_option maxRecDepth 20000 in
theorem ggX1_addSource_X1_subjects : GoodIn wsX1_addSource wsX1_subjects := goodIn_r _ [23, 2, 24, 25, 26, 27, 7, 28, 17, 18, 19, 32, 33, 34, 35, 36, 37, 38, 39, 40, 41, 42, 43, 44, 45, 46] (by decide +kernel) (by decide +kernel)
set_option maxRecDepth 20000 in
theorem gX1_addSource_X1_subjects : GoodIn wsX1_addSource (wsV RX1 79 RX1 yX1_subjects wsX1_subjects) := goodIn_app (goodIn_of _ (by decide +kernel)) ggX1_addSource_X1_subjects
set_option maxRecDepth 20000 in
theorem ggX1_addSource_X1_sizeOf : GoodIn wsX1_addSource wsX1_sizeOf := goodIn_r _ [31] (by decide +kernel) (by decide +kernel)
set_option maxRecDepth 20000 in
theorem gX1_addSource_X1_sizeOf : GoodIn wsX1_addSource (va_wsS RX1 98 yX1_sizeOf wsX1_sizeOf) := goodIn_app (goodIn_of _ (by decide +kernel)) ggX1_addSource_X1_sizeOf
theorem dX1_addSource_0 : decode cX1_addSource 0 = .ok (.aload_n 0, 1) := by decide +kernel
theorem dX1_addSource_1 : decode cX1_addSource 1 = .ok (.iconst 0, 1) := by decide +kernel
theorem dX1_addSource_2 : decode cX1_addSource 2 = .ok (.putfield 44, 3) := by decide +kernel
theorem dX1_addSource_5 : decode cX1_addSource 5 = .ok (.aload_n 0, 1) := by decide +kernel
theorem dX1_addSource_6 : decode cX1_addSource 6 = .ok (.iload_n 1, 1) := by decide +kernel
theorem dX1_addSource_7 : decode cX1_addSource 7 = .ok (.invokevirtual 95, 3) := by decide +kernel
theorem dX1_addSource_10 : decode cX1_addSource 10 = .ok (.ifCond .eq 11, 3) := by decide +kernel
theorem dX1_addSource_13 : decode cX1_addSource 13 = .ok (.aload_n 0, 1) := by decide +kernel
theorem dX1_addSource_14 : decode cX1_addSource 14 = .ok (.iload_n 2, 1) := by decide +kernel
theorem dX1_addSource_15 : decode cX1_addSource 15 = .ok (.invokevirtual 95, 3) := by decide +kernel
theorem dX1_addSource_18 : decode cX1_addSource 18 = .ok (.ifCond .ne 9, 3) := by decide +kernel
theorem dX1_addSource_21 : decode cX1_addSource 21 = .ok (.aload_n 0, 1) := by decide +kernel
theorem dX1_addSource_22 : decode cX1_addSource 22 = .ok (.iconst 1, 1) := by decide +kernel
theorem dX1_addSource_23 : decode cX1_addSource 23 = .ok (.invokevirtual 58, 3) := by decide +kernel
theorem dX1_addSource_26 : decode cX1_addSource 26 = .ok (.ireturn, 1) := by decide +kernel
theorem dX1_addSource_27 : decode cX1_addSource 27 = .ok (.iload_n 2, 1) := by decide +kernel
theorem dX1_addSource_28 : decode cX1_addSource 28 = .ok (.iload_n 1, 1) := by decide +kernel
theorem dX1_addSource_29 : decode cX1_addSource 29 = .ok (.if_icmp .ge 16, 3) := by decide +kernel
theorem dX1_addSource_32 : decode cX1_addSource 32 = .ok (.aload_n 0, 1) := by decide +kernel
theorem dX1_addSource_33 : decode cX1_addSource 33 = .ok (.getfield 26, 3) := by decide +kernel
theorem dX1_addSource_36 : decode cX1_addSource 36 = .ok (.iload_n 1, 1) := by decide +kernel
theorem dX1_addSource_37 : decode cX1_addSource 37 = .ok (.iaload, 1) := by decide +kernel
theorem dX1_addSource_38 : decode cX1_addSource 38 = .ok (.iload_n 2, 1) := by decide +kernel
theorem dX1_addSource_39 : decode cX1_addSource 39 = .ok (.invokestatic 69, 3) := by decide +kernel
theorem dX1_addSource_42 : decode cX1_addSource 42 = .ok (.ifCond .eq 9, 3) := by decide +kernel
theorem dX1_addSource_45 : decode cX1_addSource 45 = .ok (.aload_n 0, 1) := by decide +kernel
theorem dX1_addSource_46 : decode cX1_addSource 46 = .ok (.iconst 2, 1) := by decide +kernel
theorem dX1_addSource_47 : decode cX1_addSource 47 = .ok (.invokevirtual 58, 3) := by decide +kernel
theorem dX1_addSource_50 : decode cX1_addSource 50 = .ok (.ireturn, 1) := by decide +kernel
theorem dX1_addSource_51 : decode cX1_addSource 51 = .ok (.aload_n 0, 1) := by decide +kernel
theorem dX1_addSource_52 : decode cX1_addSource 52 = .ok (.getfield 26, 3) := by decide +kernel
theorem dX1_addSource_55 : decode cX1_addSource 55 = .ok (.iload_n 1, 1) := by decide +kernel
theorem dX1_addSource_56 : decode cX1_addSource 56 = .ok (.iaload, 1) := by decide +kernel
theorem dX1_addSource_57 : decode cX1_addSource 57 = .ok (.ifCond .eq 21, 3) := by decide +kernel
theorem dX1_addSource_60 : decode cX1_addSource 60 = .ok (.aload_n 0, 1) := by decide +kernel
theorem dX1_addSource_61 : decode cX1_addSource 61 = .ok (.getfield 35, 3) := by decide +kernel
theorem dX1_addSource_64 : decode cX1_addSource 64 = .ok (.iload_n 1, 1) := by decide +kernel
theorem dX1_addSource_65 : decode cX1_addSource 65 = .ok (.iaload, 1) := by decide +kernel
theorem dX1_addSource_66 : decode cX1_addSource 66 = .ok (.ifCond .ne 12, 3) := by decide +kernel
theorem dX1_addSource_69 : decode cX1_addSource 69 = .ok (.aload_n 0, 1) := by decide +kernel
theorem dX1_addSource_70 : decode cX1_addSource 70 = .ok (.getfield 35, 3) := by decide +kernel
theorem dX1_addSource_73 : decode cX1_addSource 73 = .ok (.iload_n 2, 1) := by decide +kernel
theorem dX1_addSource_74 : decode cX1_addSource 74 = .ok (.iaload, 1) := by decide +kernel
theorem dX1_addSource_75 : decode cX1_addSource 75 = .ok (.ifCond .eq 9, 3) := by decide +kernel
theorem dX1_addSource_78 : decode cX1_addSource 78 = .ok (.aload_n 0, 1) := by decide +kernel
theorem dX1_addSource_79 : decode cX1_addSource 79 = .ok (.iconst 3, 1) := by decide +kernel
theorem dX1_addSource_80 : decode cX1_addSource 80 = .ok (.invokevirtual 58, 3) := by decide +kernel
theorem dX1_addSource_83 : decode cX1_addSource 83 = .ok (.ireturn, 1) := by decide +kernel
theorem dX1_addSource_84 : decode cX1_addSource 84 = .ok (.aload_n 0, 1) := by decide +kernel
theorem dX1_addSource_85 : decode cX1_addSource 85 = .ok (.getfield 26, 3) := by decide +kernel
theorem dX1_addSource_88 : decode cX1_addSource 88 = .ok (.iload_n 1, 1) := by decide +kernel
theorem dX1_addSource_89 : decode cX1_addSource 89 = .ok (.dup2, 1) := by decide +kernel
theorem dX1_addSource_90 : decode cX1_addSource 90 = .ok (.iaload, 1) := by decide +kernel
theorem dX1_addSource_91 : decode cX1_addSource 91 = .ok (.iconst 1, 1) := by decide +kernel
theorem dX1_addSource_92 : decode cX1_addSource 92 = .ok (.iload_n 2, 1) := by decide +kernel
theorem dX1_addSource_93 : decode cX1_addSource 93 = .ok (.ishl, 1) := by decide +kernel
theorem dX1_addSource_94 : decode cX1_addSource 94 = .ok (.ior, 1) := by decide +kernel
theorem dX1_addSource_95 : decode cX1_addSource 95 = .ok (.iastore, 1) := by decide +kernel
theorem dX1_addSource_96 : decode cX1_addSource 96 = .ok (.aload_n 0, 1) := by decide +kernel
theorem dX1_addSource_97 : decode cX1_addSource 97 = .ok (.iload_n 1, 1) := by decide +kernel
theorem dX1_addSource_98 : decode cX1_addSource 98 = .ok (.invokevirtual 79, 3) := by decide +kernel
theorem dX1_addSource_101 : decode cX1_addSource 101 = .ok (.invokestatic 98, 3) := by decide +kernel
end
section
theorem dX1_addSource_104 : decode cX1_addSource 104 = .ok (.ireturn, 1) := by decide +kernel
theorem dX1_records_0 : decode cX1_records 0 = .ok (.aload_n 0, 1) := by decide +kernel
theorem dX1_records_1 : decode cX1_records 1 = .ok (.iconst 0, 1) := by decide +kernel
theorem dX1_records_2 : decode cX1_records 2 = .ok (.putfield 44, 3) := by decide +kernel
theorem dX1_records_5 : decode cX1_records 5 = .ok (.aload_n 0, 1) := by decide +kernel
theorem dX1_records_6 : decode cX1_records 6 = .ok (.getfield 55, 3) := by decide +kernel
theorem dX1_records_9 : decode cX1_records 9 = .ok (.ireturn, 1) := by decide +kernel
set_option maxRecDepth 20000 in
theorem ggX1_stateOf_X1_isRecord : GoodIn wsX1_stateOf wsX1_isRecord := goodIn_r _ [7, 8, 9, 10, 6, 11, 16, 17, 18, 19, 20, 21, 22, 23, 24, 25, 26, 27, 28, 29, 30] (by decide +kernel) (by decide +kernel)
set_option maxRecDepth 20000 in
theorem gX1_stateOf_X1_isRecord : GoodIn wsX1_stateOf (wsV RX1 95 RX1 yX1_isRecord wsX1_isRecord) := goodIn_app (goodIn_of _ (by decide +kernel)) ggX1_stateOf_X1_isRecord
set_option maxRecDepth 20000 in
theorem ggX1_stateOf_X1_fails : GoodIn wsX1_stateOf wsX1_fails := goodIn_r _ [15, 1, 16, 17, 18, 19, 20, 21, 22, 23, 24, 25, 26, 27, 28, 29, 30] (by decide +kernel) (by decide +kernel)
set_option maxRecDepth 20000 in
theorem gX1_stateOf_X1_fails : GoodIn wsX1_stateOf (wsV RX1 58 RX1 yX1_fails wsX1_fails) := goodIn_app (goodIn_of _ (by decide +kernel)) ggX1_stateOf_X1_fails
theorem dX1_stateOf_0 : decode cX1_stateOf 0 = .ok (.aload_n 0, 1) := by decide +kernel
theorem dX1_stateOf_1 : decode cX1_stateOf 1 = .ok (.iconst 0, 1) := by decide +kernel
theorem dX1_stateOf_2 : decode cX1_stateOf 2 = .ok (.putfield 44, 3) := by decide +kernel
theorem dX1_stateOf_5 : decode cX1_stateOf 5 = .ok (.aload_n 0, 1) := by decide +kernel
theorem dX1_stateOf_6 : decode cX1_stateOf 6 = .ok (.iload_n 1, 1) := by decide +kernel
theorem dX1_stateOf_7 : decode cX1_stateOf 7 = .ok (.invokevirtual 95, 3) := by decide +kernel
theorem dX1_stateOf_10 : decode cX1_stateOf 10 = .ok (.ifCond .eq 12, 3) := by decide +kernel
theorem dX1_stateOf_13 : decode cX1_stateOf 13 = .ok (.aload_n 0, 1) := by decide +kernel
theorem dX1_stateOf_14 : decode cX1_stateOf 14 = .ok (.getfield 35, 3) := by decide +kernel
theorem dX1_stateOf_17 : decode cX1_stateOf 17 = .ok (.iload_n 1, 1) := by decide +kernel
theorem dX1_stateOf_18 : decode cX1_stateOf 18 = .ok (.iaload, 1) := by decide +kernel
theorem dX1_stateOf_19 : decode cX1_stateOf 19 = .ok (.goto 8, 3) := by decide +kernel
theorem dX1_stateOf_22 : decode cX1_stateOf 22 = .ok (.aload_n 0, 1) := by decide +kernel
theorem dX1_stateOf_23 : decode cX1_stateOf 23 = .ok (.iconst 1, 1) := by decide +kernel
theorem dX1_stateOf_24 : decode cX1_stateOf 24 = .ok (.invokevirtual 58, 3) := by decide +kernel
theorem dX1_stateOf_27 : decode cX1_stateOf 27 = .ok (.ireturn, 1) := by decide +kernel
set_option maxRecDepth 20000 in
theorem ggX1_subjectsOf_X1_isRecord : GoodIn wsX1_subjectsOf wsX1_isRecord := goodIn_r _ [6, 7, 8, 9, 5, 10, 28, 29, 30, 31, 32, 33, 34, 35, 36, 37, 38, 39, 40, 41, 42] (by decide +kernel) (by decide +kernel)
set_option maxRecDepth 20000 in
theorem gX1_subjectsOf_X1_isRecord : GoodIn wsX1_subjectsOf (wsV RX1 95 RX1 yX1_isRecord wsX1_isRecord) := goodIn_app (goodIn_of _ (by decide +kernel)) ggX1_subjectsOf_X1_isRecord
set_option maxRecDepth 20000 in
theorem ggX1_subjectsOf_X1_subjects : GoodIn wsX1_subjectsOf wsX1_subjects := goodIn_r _ [14, 15, 16, 17, 18, 19, 5, 20, 21, 22, 23, 28, 29, 30, 31, 32, 33, 34, 35, 36, 37, 38, 39, 40, 41, 42] (by decide +kernel) (by decide +kernel)
set_option maxRecDepth 20000 in
theorem gX1_subjectsOf_X1_subjects : GoodIn wsX1_subjectsOf (wsV RX1 79 RX1 yX1_subjects wsX1_subjects) := goodIn_app (goodIn_of _ (by decide +kernel)) ggX1_subjectsOf_X1_subjects
set_option maxRecDepth 20000 in
theorem ggX1_subjectsOf_X1_fails : GoodIn wsX1_subjectsOf wsX1_fails := goodIn_r _ [27, 1, 28, 29, 30, 31, 32, 33, 34, 35, 36, 37, 38, 39, 40, 41, 42] (by decide +kernel) (by decide +kernel)
set_option maxRecDepth 20000 in
theorem gX1_subjectsOf_X1_fails : GoodIn wsX1_subjectsOf (wsV RX1 58 RX1 yX1_fails wsX1_fails) := goodIn_app (goodIn_of _ (by decide +kernel)) ggX1_subjectsOf_X1_fails
theorem dX1_subjectsOf_0 : decode cX1_subjectsOf 0 = .ok (.aload_n 0, 1) := by decide +kernel
theorem dX1_subjectsOf_1 : decode cX1_subjectsOf 1 = .ok (.iconst 0, 1) := by decide +kernel
theorem dX1_subjectsOf_2 : decode cX1_subjectsOf 2 = .ok (.putfield 44, 3) := by decide +kernel
theorem dX1_subjectsOf_5 : decode cX1_subjectsOf 5 = .ok (.aload_n 0, 1) := by decide +kernel
theorem dX1_subjectsOf_6 : decode cX1_subjectsOf 6 = .ok (.iload_n 1, 1) := by decide +kernel
theorem dX1_subjectsOf_7 : decode cX1_subjectsOf 7 = .ok (.invokevirtual 95, 3) := by decide +kernel
theorem dX1_subjectsOf_10 : decode cX1_subjectsOf 10 = .ok (.ifCond .eq 11, 3) := by decide +kernel
theorem dX1_subjectsOf_13 : decode cX1_subjectsOf 13 = .ok (.aload_n 0, 1) := by decide +kernel
theorem dX1_subjectsOf_14 : decode cX1_subjectsOf 14 = .ok (.iload_n 1, 1) := by decide +kernel
theorem dX1_subjectsOf_15 : decode cX1_subjectsOf 15 = .ok (.invokevirtual 79, 3) := by decide +kernel
theorem dX1_subjectsOf_18 : decode cX1_subjectsOf 18 = .ok (.goto 8, 3) := by decide +kernel
theorem dX1_subjectsOf_21 : decode cX1_subjectsOf 21 = .ok (.aload_n 0, 1) := by decide +kernel
theorem dX1_subjectsOf_22 : decode cX1_subjectsOf 22 = .ok (.iconst 1, 1) := by decide +kernel
theorem dX1_subjectsOf_23 : decode cX1_subjectsOf 23 = .ok (.invokevirtual 58, 3) := by decide +kernel
theorem dX1_subjectsOf_26 : decode cX1_subjectsOf 26 = .ok (.ireturn, 1) := by decide +kernel
set_option maxRecDepth 20000 in
theorem ggX1_below_X1_isRecord : GoodIn wsX1_below wsX1_isRecord := goodIn_r _ [6, 7, 8, 9, 5, 10, 23, 24, 25, 26, 27, 28, 29, 30, 31, 32, 33, 34, 35, 36, 37] (by decide +kernel) (by decide +kernel)
set_option maxRecDepth 20000 in
theorem gX1_below_X1_isRecord : GoodIn wsX1_below (wsV RX1 95 RX1 yX1_isRecord wsX1_isRecord) := goodIn_app (goodIn_of _ (by decide +kernel)) ggX1_below_X1_isRecord
set_option maxRecDepth 20000 in
theorem ggX1_below_X1_belowOf : GoodIn wsX1_below wsX1_belowOf := goodIn_r _ [14, 7, 15, 16, 17, 5, 18, 23, 24, 25, 26, 27, 28, 29, 30, 31, 32, 33, 34, 35, 36, 37] (by decide +kernel) (by decide +kernel)
set_option maxRecDepth 20000 in
theorem gX1_below_X1_belowOf : GoodIn wsX1_below (wsV RX1 101 RX1 yX1_belowOf wsX1_belowOf) := goodIn_app (goodIn_of _ (by decide +kernel)) ggX1_below_X1_belowOf
set_option maxRecDepth 20000 in
theorem ggX1_below_X1_fails : GoodIn wsX1_below wsX1_fails := goodIn_r _ [22, 1, 23, 24, 25, 26, 27, 28, 29, 30, 31, 32, 33, 34, 35, 36, 37] (by decide +kernel) (by decide +kernel)
set_option maxRecDepth 20000 in
theorem gX1_below_X1_fails : GoodIn wsX1_below (wsV RX1 58 RX1 yX1_fails wsX1_fails) := goodIn_app (goodIn_of _ (by decide +kernel)) ggX1_below_X1_fails
theorem dX1_below_0 : decode cX1_below 0 = .ok (.aload_n 0, 1) := by decide +kernel
theorem dX1_below_1 : decode cX1_below 1 = .ok (.iconst 0, 1) := by decide +kernel
theorem dX1_below_2 : decode cX1_below 2 = .ok (.putfield 44, 3) := by decide +kernel
theorem dX1_below_5 : decode cX1_below 5 = .ok (.aload_n 0, 1) := by decide +kernel
theorem dX1_below_6 : decode cX1_below 6 = .ok (.iload_n 1, 1) := by decide +kernel
theorem dX1_below_7 : decode cX1_below 7 = .ok (.invokevirtual 95, 3) := by decide +kernel
theorem dX1_below_10 : decode cX1_below 10 = .ok (.ifCond .eq 11, 3) := by decide +kernel
theorem dX1_below_13 : decode cX1_below 13 = .ok (.aload_n 0, 1) := by decide +kernel
theorem dX1_below_14 : decode cX1_below 14 = .ok (.iload_n 1, 1) := by decide +kernel
theorem dX1_below_15 : decode cX1_below 15 = .ok (.invokevirtual 101, 3) := by decide +kernel
theorem dX1_below_18 : decode cX1_below 18 = .ok (.goto 8, 3) := by decide +kernel
theorem dX1_below_21 : decode cX1_below 21 = .ok (.aload_n 0, 1) := by decide +kernel
theorem dX1_below_22 : decode cX1_below 22 = .ok (.iconst 1, 1) := by decide +kernel
theorem dX1_below_23 : decode cX1_below 23 = .ok (.invokevirtual 58, 3) := by decide +kernel
theorem dX1_below_26 : decode cX1_below 26 = .ok (.ireturn, 1) := by decide +kernel
set_option maxRecDepth 20000 in
theorem ggX1_endOf_X1_isRecord : GoodIn wsX1_endOf wsX1_isRecord := goodIn_r _ [6, 7, 8, 9, 5, 10, 46, 47, 48, 49, 50, 51, 52, 53, 54, 55, 56, 57, 58, 59, 60] (by decide +kernel) (by decide +kernel)
set_option maxRecDepth 20000 in
theorem gX1_endOf_X1_isRecord : GoodIn wsX1_endOf (wsV RX1 95 RX1 yX1_isRecord wsX1_isRecord) := goodIn_app (goodIn_of _ (by decide +kernel)) ggX1_endOf_X1_isRecord
set_option maxRecDepth 20000 in
theorem ggX1_endOf_X1_end : GoodIn wsX1_endOf wsX1_end := goodIn_r _ [14, 15, 16, 17, 18, 19, 5, 20, 21, 22, 23, 24, 25, 26, 27, 28, 29, 30, 31, 32, 33, 34, 35, 36, 37, 38, 39, 40, 41, 46, 47, 48, 49, 50, 51, 52, 53, 54, 55, 56, 57, 58, 59, 60] (by decide +kernel) (by decide +kernel)
set_option maxRecDepth 20000 in
theorem gX1_endOf_X1_end : GoodIn wsX1_endOf (wsV RX1 104 RX1 yX1_end wsX1_end) := goodIn_app (goodIn_of _ (by decide +kernel)) ggX1_endOf_X1_end
set_option maxRecDepth 20000 in
theorem ggX1_endOf_X1_fails : GoodIn wsX1_endOf wsX1_fails := goodIn_r _ [45, 1, 46, 47, 48, 49, 50, 51, 52, 53, 54, 55, 56, 57, 58, 59, 60] (by decide +kernel) (by decide +kernel)
set_option maxRecDepth 20000 in
theorem gX1_endOf_X1_fails : GoodIn wsX1_endOf (wsV RX1 58 RX1 yX1_fails wsX1_fails) := goodIn_app (goodIn_of _ (by decide +kernel)) ggX1_endOf_X1_fails
theorem dX1_endOf_0 : decode cX1_endOf 0 = .ok (.aload_n 0, 1) := by decide +kernel
theorem dX1_endOf_1 : decode cX1_endOf 1 = .ok (.iconst 0, 1) := by decide +kernel
theorem dX1_endOf_2 : decode cX1_endOf 2 = .ok (.putfield 44, 3) := by decide +kernel
theorem dX1_endOf_5 : decode cX1_endOf 5 = .ok (.aload_n 0, 1) := by decide +kernel
theorem dX1_endOf_6 : decode cX1_endOf 6 = .ok (.iload_n 1, 1) := by decide +kernel
theorem dX1_endOf_7 : decode cX1_endOf 7 = .ok (.invokevirtual 95, 3) := by decide +kernel
theorem dX1_endOf_10 : decode cX1_endOf 10 = .ok (.ifCond .eq 11, 3) := by decide +kernel
theorem dX1_endOf_13 : decode cX1_endOf 13 = .ok (.aload_n 0, 1) := by decide +kernel
theorem dX1_endOf_14 : decode cX1_endOf 14 = .ok (.iload_n 1, 1) := by decide +kernel
theorem dX1_endOf_15 : decode cX1_endOf 15 = .ok (.invokevirtual 104, 3) := by decide +kernel
theorem dX1_endOf_18 : decode cX1_endOf 18 = .ok (.goto 8, 3) := by decide +kernel
theorem dX1_endOf_21 : decode cX1_endOf 21 = .ok (.aload_n 0, 1) := by decide +kernel
theorem dX1_endOf_22 : decode cX1_endOf 22 = .ok (.iconst 1, 1) := by decide +kernel
theorem dX1_endOf_23 : decode cX1_endOf 23 = .ok (.invokevirtual 58, 3) := by decide +kernel
theorem dX1_endOf_26 : decode cX1_endOf 26 = .ok (.ireturn, 1) := by decide +kernel
set_option maxRecDepth 20000 in
theorem ggX1_reason_X1_has : GoodIn wsX1_reason wsX1_has := goodIn_r _ [9] (by decide +kernel) (by decide +kernel)
set_option maxRecDepth 20000 in
theorem gX1_reason_X1_has : GoodIn wsX1_reason (va_wsS RX1 69 yX1_has wsX1_has) := goodIn_app (goodIn_of _ (by decide +kernel)) ggX1_reason_X1_has
set_option maxRecDepth 20000 in
theorem ggX1_reason_X1_subjects : GoodIn wsX1_reason wsX1_subjects := goodIn_r _ [13, 14, 15, 16, 17, 18, 8, 19, 6, 7, 9, 26, 27, 28, 29, 30, 31, 32, 33, 34, 35, 36, 37, 38, 39, 40] (by decide +kernel) (by decide +kernel)
set_option maxRecDepth 20000 in
theorem gX1_reason_X1_subjects : GoodIn wsX1_reason (wsV RX1 79 RX1 yX1_subjects wsX1_subjects) := goodIn_app (goodIn_of _ (by decide +kernel)) ggX1_reason_X1_subjects
set_option maxRecDepth 20000 in
theorem ggX1_reason_X1_isAllowed : GoodIn wsX1_reason wsX1_isAllowed := goodIn_r _ [23, 24, 25, 6, 7, 8, 9, 26, 27, 28, 29, 30, 31, 32, 33, 34, 35, 36, 37, 38, 39, 40] (by decide +kernel) (by decide +kernel)
set_option maxRecDepth 20000 in
theorem gX1_reason_X1_isAllowed : GoodIn wsX1_reason (wsV RX1 76 RX1 yX1_isAllowed wsX1_isAllowed) := goodIn_app (goodIn_of _ (by decide +kernel)) ggX1_reason_X1_isAllowed
theorem dX1_reason_0 : decode cX1_reason 0 = .ok (.aload_n 0, 1) := by decide +kernel
theorem dX1_reason_1 : decode cX1_reason 1 = .ok (.getfield 35, 3) := by decide +kernel
theorem dX1_reason_4 : decode cX1_reason 4 = .ok (.iload_n 1, 1) := by decide +kernel
theorem dX1_reason_5 : decode cX1_reason 5 = .ok (.iaload, 1) := by decide +kernel
theorem dX1_reason_6 : decode cX1_reason 6 = .ok (.ifCond .eq 19, 3) := by decide +kernel
theorem dX1_reason_9 : decode cX1_reason 9 = .ok (.aload_n 0, 1) := by decide +kernel
theorem dX1_reason_10 : decode cX1_reason 10 = .ok (.getfield 35, 3) := by decide +kernel
theorem dX1_reason_13 : decode cX1_reason 13 = .ok (.iload_n 1, 1) := by decide +kernel
theorem dX1_reason_14 : decode cX1_reason 14 = .ok (.iaload, 1) := by decide +kernel
theorem dX1_reason_15 : decode cX1_reason 15 = .ok (.iconst 2, 1) := by decide +kernel
theorem dX1_reason_16 : decode cX1_reason 16 = .ok (.if_icmp .ne 7, 3) := by decide +kernel
theorem dX1_reason_19 : decode cX1_reason 19 = .ok (.iconst 1, 1) := by decide +kernel
theorem dX1_reason_20 : decode cX1_reason 20 = .ok (.goto 4, 3) := by decide +kernel
theorem dX1_reason_23 : decode cX1_reason 23 = .ok (.iconst 2, 1) := by decide +kernel
theorem dX1_reason_24 : decode cX1_reason 24 = .ok (.ireturn, 1) := by decide +kernel
theorem dX1_reason_25 : decode cX1_reason 25 = .ok (.aload_n 0, 1) := by decide +kernel
theorem dX1_reason_26 : decode cX1_reason 26 = .ok (.getfield 29, 3) := by decide +kernel
theorem dX1_reason_29 : decode cX1_reason 29 = .ok (.iload_n 1, 1) := by decide +kernel
theorem dX1_reason_30 : decode cX1_reason 30 = .ok (.iaload, 1) := by decide +kernel
theorem dX1_reason_31 : decode cX1_reason 31 = .ok (.iload_n 2, 1) := by decide +kernel
theorem dX1_reason_32 : decode cX1_reason 32 = .ok (.invokestatic 69, 3) := by decide +kernel
theorem dX1_reason_35 : decode cX1_reason 35 = .ok (.ifCond .ne 5, 3) := by decide +kernel
theorem dX1_reason_38 : decode cX1_reason 38 = .ok (.iconst 3, 1) := by decide +kernel
theorem dX1_reason_39 : decode cX1_reason 39 = .ok (.ireturn, 1) := by decide +kernel
theorem dX1_reason_40 : decode cX1_reason 40 = .ok (.aload_n 0, 1) := by decide +kernel
theorem dX1_reason_41 : decode cX1_reason 41 = .ok (.iload_n 2, 1) := by decide +kernel
theorem dX1_reason_42 : decode cX1_reason 42 = .ok (.aload_n 0, 1) := by decide +kernel
theorem dX1_reason_43 : decode cX1_reason 43 = .ok (.iload_n 1, 1) := by decide +kernel
theorem dX1_reason_44 : decode cX1_reason 44 = .ok (.invokevirtual 79, 3) := by decide +kernel
theorem dX1_reason_47 : decode cX1_reason 47 = .ok (.invokevirtual 76, 3) := by decide +kernel
theorem dX1_reason_50 : decode cX1_reason 50 = .ok (.ifCond .ne 7, 3) := by decide +kernel
theorem dX1_reason_53 : decode cX1_reason 53 = .ok (.iconst 4, 1) := by decide +kernel
theorem dX1_reason_54 : decode cX1_reason 54 = .ok (.goto 28, 3) := by decide +kernel
theorem dX1_reason_57 : decode cX1_reason 57 = .ok (.aload_n 0, 1) := by decide +kernel
theorem dX1_reason_58 : decode cX1_reason 58 = .ok (.getfield 86, 3) := by decide +kernel
theorem dX1_reason_61 : decode cX1_reason 61 = .ok (.aload_n 0, 1) := by decide +kernel
theorem dX1_reason_62 : decode cX1_reason 62 = .ok (.getfield 32, 3) := by decide +kernel
theorem dX1_reason_65 : decode cX1_reason 65 = .ok (.iload_n 1, 1) := by decide +kernel
theorem dX1_reason_66 : decode cX1_reason 66 = .ok (.iaload, 1) := by decide +kernel
theorem dX1_reason_67 : decode cX1_reason 67 = .ok (.aload_n 0, 1) := by decide +kernel
theorem dX1_reason_68 : decode cX1_reason 68 = .ok (.getfield 7, 3) := by decide +kernel
theorem dX1_reason_71 : decode cX1_reason 71 = .ok (.iload_n 2, 1) := by decide +kernel
theorem dX1_reason_72 : decode cX1_reason 72 = .ok (.iaload, 1) := by decide +kernel
theorem dX1_reason_73 : decode cX1_reason 73 = .ok (.iadd, 1) := by decide +kernel
theorem dX1_reason_74 : decode cX1_reason 74 = .ok (.if_icmp .lt 7, 3) := by decide +kernel
theorem dX1_reason_77 : decode cX1_reason 77 = .ok (.iconst 5, 1) := by decide +kernel
theorem dX1_reason_78 : decode cX1_reason 78 = .ok (.goto 4, 3) := by decide +kernel
theorem dX1_reason_81 : decode cX1_reason 81 = .ok (.iconst 0, 1) := by decide +kernel
theorem dX1_reason_82 : decode cX1_reason 82 = .ok (.ireturn, 1) := by decide +kernel
set_option maxRecDepth 20000 in
theorem ggX1_whyNoUse_X1_isRecord : GoodIn wsX1_whyNoUse wsX1_isRecord := goodIn_r _ [6, 7, 8, 9, 5, 10, 48, 49, 50, 51, 52, 53, 54, 55, 56, 57, 58, 59, 60, 61, 62] (by decide +kernel) (by decide +kernel)
set_option maxRecDepth 20000 in
theorem gX1_whyNoUse_X1_isRecord : GoodIn wsX1_whyNoUse (wsV RX1 95 RX1 yX1_isRecord wsX1_isRecord) := goodIn_app (goodIn_of _ (by decide +kernel)) ggX1_whyNoUse_X1_isRecord
set_option maxRecDepth 20000 in
theorem ggX1_whyNoUse_X1_isPurpose : GoodIn wsX1_whyNoUse wsX1_isPurpose := goodIn_r _ [14, 15, 8, 9, 5, 10, 48, 49, 50, 51, 52, 53, 54, 55, 56, 57, 58, 59, 60, 61, 62] (by decide +kernel) (by decide +kernel)
set_option maxRecDepth 20000 in
theorem gX1_whyNoUse_X1_isPurpose : GoodIn wsX1_whyNoUse (wsV RX1 62 RX1 yX1_isPurpose wsX1_isPurpose) := goodIn_app (goodIn_of _ (by decide +kernel)) ggX1_whyNoUse_X1_isPurpose
set_option maxRecDepth 20000 in
theorem ggX1_whyNoUse_X1_reason : GoodIn wsX1_whyNoUse wsX1_reason := goodIn_r _ [19, 20, 21, 22, 23, 24, 25, 26, 5, 27, 28, 29, 30, 31, 32, 33, 34, 35, 36, 37, 38, 39, 40, 41, 42, 43, 48, 49, 50, 51, 52, 53, 54, 55, 56, 57, 58, 59, 60, 61, 62] (by decide +kernel) (by decide +kernel)
set_option maxRecDepth 20000 in
theorem gX1_whyNoUse_X1_reason : GoodIn wsX1_whyNoUse (wsV RX1 107 RX1 yX1_reason wsX1_reason) := goodIn_app (goodIn_of _ (by decide +kernel)) ggX1_whyNoUse_X1_reason
set_option maxRecDepth 20000 in
theorem ggX1_whyNoUse_X1_fails : GoodIn wsX1_whyNoUse wsX1_fails := goodIn_r _ [47, 1, 48, 49, 50, 51, 52, 53, 54, 55, 56, 57, 58, 59, 60, 61, 62] (by decide +kernel) (by decide +kernel)
set_option maxRecDepth 20000 in
theorem gX1_whyNoUse_X1_fails : GoodIn wsX1_whyNoUse (wsV RX1 58 RX1 yX1_fails wsX1_fails) := goodIn_app (goodIn_of _ (by decide +kernel)) ggX1_whyNoUse_X1_fails
theorem dX1_whyNoUse_0 : decode cX1_whyNoUse 0 = .ok (.aload_n 0, 1) := by decide +kernel
theorem dX1_whyNoUse_1 : decode cX1_whyNoUse 1 = .ok (.iconst 0, 1) := by decide +kernel
theorem dX1_whyNoUse_2 : decode cX1_whyNoUse 2 = .ok (.putfield 44, 3) := by decide +kernel
theorem dX1_whyNoUse_5 : decode cX1_whyNoUse 5 = .ok (.aload_n 0, 1) := by decide +kernel
theorem dX1_whyNoUse_6 : decode cX1_whyNoUse 6 = .ok (.iload_n 1, 1) := by decide +kernel
theorem dX1_whyNoUse_7 : decode cX1_whyNoUse 7 = .ok (.invokevirtual 95, 3) := by decide +kernel
theorem dX1_whyNoUse_10 : decode cX1_whyNoUse 10 = .ok (.ifCond .eq 20, 3) := by decide +kernel
theorem dX1_whyNoUse_13 : decode cX1_whyNoUse 13 = .ok (.aload_n 0, 1) := by decide +kernel
theorem dX1_whyNoUse_14 : decode cX1_whyNoUse 14 = .ok (.iload_n 2, 1) := by decide +kernel
theorem dX1_whyNoUse_15 : decode cX1_whyNoUse 15 = .ok (.invokevirtual 62, 3) := by decide +kernel
theorem dX1_whyNoUse_18 : decode cX1_whyNoUse 18 = .ok (.ifCond .eq 12, 3) := by decide +kernel
theorem dX1_whyNoUse_21 : decode cX1_whyNoUse 21 = .ok (.aload_n 0, 1) := by decide +kernel
theorem dX1_whyNoUse_22 : decode cX1_whyNoUse 22 = .ok (.iload_n 1, 1) := by decide +kernel
theorem dX1_whyNoUse_23 : decode cX1_whyNoUse 23 = .ok (.iload_n 2, 1) := by decide +kernel
theorem dX1_whyNoUse_24 : decode cX1_whyNoUse 24 = .ok (.invokevirtual 107, 3) := by decide +kernel
theorem dX1_whyNoUse_27 : decode cX1_whyNoUse 27 = .ok (.goto 8, 3) := by decide +kernel
theorem dX1_whyNoUse_30 : decode cX1_whyNoUse 30 = .ok (.aload_n 0, 1) := by decide +kernel
theorem dX1_whyNoUse_31 : decode cX1_whyNoUse 31 = .ok (.iconst 1, 1) := by decide +kernel
theorem dX1_whyNoUse_32 : decode cX1_whyNoUse 32 = .ok (.invokevirtual 58, 3) := by decide +kernel
theorem dX1_whyNoUse_35 : decode cX1_whyNoUse 35 = .ok (.ireturn, 1) := by decide +kernel
set_option maxRecDepth 20000 in
theorem ggX1_use_X1_isRecord : GoodIn wsX1_use wsX1_isRecord := goodIn_r _ [7, 8, 9, 10, 6, 11, 49, 50, 51, 52, 53, 54, 55, 56, 57, 58, 59, 60, 61, 62, 63] (by decide +kernel) (by decide +kernel)
set_option maxRecDepth 20000 in
theorem gX1_use_X1_isRecord : GoodIn wsX1_use (wsV RX1 95 RX1 yX1_isRecord wsX1_isRecord) := goodIn_app (goodIn_of _ (by decide +kernel)) ggX1_use_X1_isRecord
set_option maxRecDepth 20000 in
theorem ggX1_use_X1_isPurpose : GoodIn wsX1_use wsX1_isPurpose := goodIn_r _ [15, 16, 9, 10, 6, 11, 49, 50, 51, 52, 53, 54, 55, 56, 57, 58, 59, 60, 61, 62, 63] (by decide +kernel) (by decide +kernel)
set_option maxRecDepth 20000 in
theorem gX1_use_X1_isPurpose : GoodIn wsX1_use (wsV RX1 62 RX1 yX1_isPurpose wsX1_isPurpose) := goodIn_app (goodIn_of _ (by decide +kernel)) ggX1_use_X1_isPurpose
set_option maxRecDepth 20000 in
theorem ggX1_use_X1_fails : GoodIn wsX1_use wsX1_fails := goodIn_r _ [20, 1, 49, 50, 51, 52, 53, 54, 55, 56, 57, 58, 59, 60, 61, 62, 63] (by decide +kernel) (by decide +kernel)
set_option maxRecDepth 20000 in
theorem gX1_use_X1_fails : GoodIn wsX1_use (wsV RX1 58 RX1 yX1_fails wsX1_fails) := goodIn_app (goodIn_of _ (by decide +kernel)) ggX1_use_X1_fails
set_option maxRecDepth 20000 in
theorem ggX1_use_X1_reason : GoodIn wsX1_use wsX1_reason := goodIn_r _ [24, 25, 26, 27, 28, 29, 30, 31, 6, 32, 33, 34, 35, 36, 37, 38, 39, 40, 41, 42, 43, 44, 45, 46, 47, 48, 49, 50, 51, 52, 53, 54, 55, 56, 57, 58, 59, 60, 61, 62, 63] (by decide +kernel) (by decide +kernel)
set_option maxRecDepth 20000 in
theorem gX1_use_X1_reason : GoodIn wsX1_use (wsV RX1 107 RX1 yX1_reason wsX1_reason) := goodIn_app (goodIn_of _ (by decide +kernel)) ggX1_use_X1_reason
theorem dX1_use_0 : decode cX1_use 0 = .ok (.aload_n 0, 1) := by decide +kernel
theorem dX1_use_1 : decode cX1_use 1 = .ok (.iconst 0, 1) := by decide +kernel
theorem dX1_use_2 : decode cX1_use 2 = .ok (.putfield 44, 3) := by decide +kernel
theorem dX1_use_5 : decode cX1_use 5 = .ok (.aload_n 0, 1) := by decide +kernel
theorem dX1_use_6 : decode cX1_use 6 = .ok (.iload_n 1, 1) := by decide +kernel
theorem dX1_use_7 : decode cX1_use 7 = .ok (.invokevirtual 95, 3) := by decide +kernel
theorem dX1_use_10 : decode cX1_use 10 = .ok (.ifCond .eq 11, 3) := by decide +kernel
theorem dX1_use_13 : decode cX1_use 13 = .ok (.aload_n 0, 1) := by decide +kernel
theorem dX1_use_14 : decode cX1_use 14 = .ok (.iload_n 2, 1) := by decide +kernel
theorem dX1_use_15 : decode cX1_use 15 = .ok (.invokevirtual 62, 3) := by decide +kernel
theorem dX1_use_18 : decode cX1_use 18 = .ok (.ifCond .ne 9, 3) := by decide +kernel
theorem dX1_use_21 : decode cX1_use 21 = .ok (.aload_n 0, 1) := by decide +kernel
theorem dX1_use_22 : decode cX1_use 22 = .ok (.iconst 1, 1) := by decide +kernel
theorem dX1_use_23 : decode cX1_use 23 = .ok (.invokevirtual 58, 3) := by decide +kernel
theorem dX1_use_26 : decode cX1_use 26 = .ok (.ireturn, 1) := by decide +kernel
theorem dX1_use_27 : decode cX1_use 27 = .ok (.aload_n 0, 1) := by decide +kernel
theorem dX1_use_28 : decode cX1_use 28 = .ok (.iload_n 1, 1) := by decide +kernel
theorem dX1_use_29 : decode cX1_use 29 = .ok (.iload_n 2, 1) := by decide +kernel
theorem dX1_use_30 : decode cX1_use 30 = .ok (.invokevirtual 107, 3) := by decide +kernel
theorem dX1_use_33 : decode cX1_use 33 = .ok (.ifCond .le 9, 3) := by decide +kernel
theorem dX1_use_36 : decode cX1_use 36 = .ok (.aload_n 0, 1) := by decide +kernel
theorem dX1_use_37 : decode cX1_use 37 = .ok (.iconst 2, 1) := by decide +kernel
theorem dX1_use_38 : decode cX1_use 38 = .ok (.invokevirtual 58, 3) := by decide +kernel
theorem dX1_use_41 : decode cX1_use 41 = .ok (.ireturn, 1) := by decide +kernel
theorem dX1_use_42 : decode cX1_use 42 = .ok (.aload_n 0, 1) := by decide +kernel
theorem dX1_use_43 : decode cX1_use 43 = .ok (.getfield 38, 3) := by decide +kernel
theorem dX1_use_46 : decode cX1_use 46 = .ok (.bipush 8, 2) := by decide +kernel
theorem dX1_use_48 : decode cX1_use 48 = .ok (.iload_n 1, 1) := by decide +kernel
theorem dX1_use_49 : decode cX1_use 49 = .ok (.imul, 1) := by decide +kernel
theorem dX1_use_50 : decode cX1_use 50 = .ok (.iload_n 2, 1) := by decide +kernel
theorem dX1_use_51 : decode cX1_use 51 = .ok (.iadd, 1) := by decide +kernel
theorem dX1_use_52 : decode cX1_use 52 = .ok (.dup2, 1) := by decide +kernel
theorem dX1_use_53 : decode cX1_use 53 = .ok (.iaload, 1) := by decide +kernel
theorem dX1_use_54 : decode cX1_use 54 = .ok (.iconst 1, 1) := by decide +kernel
theorem dX1_use_55 : decode cX1_use 55 = .ok (.iadd, 1) := by decide +kernel
theorem dX1_use_56 : decode cX1_use 56 = .ok (.iastore, 1) := by decide +kernel
theorem dX1_use_57 : decode cX1_use 57 = .ok (.aload_n 0, 1) := by decide +kernel
theorem dX1_use_58 : decode cX1_use 58 = .ok (.getfield 38, 3) := by decide +kernel
theorem dX1_use_61 : decode cX1_use 61 = .ok (.bipush 8, 2) := by decide +kernel
theorem dX1_use_63 : decode cX1_use 63 = .ok (.iload_n 1, 1) := by decide +kernel
theorem dX1_use_64 : decode cX1_use 64 = .ok (.imul, 1) := by decide +kernel
theorem dX1_use_65 : decode cX1_use 65 = .ok (.iload_n 2, 1) := by decide +kernel
theorem dX1_use_66 : decode cX1_use 66 = .ok (.iadd, 1) := by decide +kernel
theorem dX1_use_67 : decode cX1_use 67 = .ok (.iaload, 1) := by decide +kernel
theorem dX1_use_68 : decode cX1_use 68 = .ok (.ireturn, 1) := by decide +kernel
set_option maxRecDepth 20000 in
theorem ggX1_uses_X1_isSubject : GoodIn wsX1_uses wsX1_isSubject := goodIn_r _ [7, 8, 9, 6, 10] (by decide +kernel) (by decide +kernel)
set_option maxRecDepth 20000 in
theorem gX1_uses_X1_isSubject : GoodIn wsX1_uses (va_wsS RX1 66 yX1_isSubject wsX1_isSubject) := goodIn_app (goodIn_of _ (by decide +kernel)) ggX1_uses_X1_isSubject
set_option maxRecDepth 20000 in
theorem ggX1_uses_X1_isPurpose : GoodIn wsX1_uses wsX1_isPurpose := goodIn_r _ [14, 15, 8, 9, 6, 10, 33, 34, 35, 36, 37, 38, 39, 40, 41, 42, 43, 44, 45, 46, 47] (by decide +kernel) (by decide +kernel)
set_option maxRecDepth 20000 in
theorem gX1_uses_X1_isPurpose : GoodIn wsX1_uses (wsV RX1 62 RX1 yX1_isPurpose wsX1_isPurpose) := goodIn_app (goodIn_of _ (by decide +kernel)) ggX1_uses_X1_isPurpose
set_option maxRecDepth 20000 in
theorem ggX1_uses_X1_fails : GoodIn wsX1_uses wsX1_fails := goodIn_r _ [19, 1, 33, 34, 35, 36, 37, 38, 39, 40, 41, 42, 43, 44, 45, 46, 47] (by decide +kernel) (by decide +kernel)
set_option maxRecDepth 20000 in
theorem gX1_uses_X1_fails : GoodIn wsX1_uses (wsV RX1 58 RX1 yX1_fails wsX1_fails) := goodIn_app (goodIn_of _ (by decide +kernel)) ggX1_uses_X1_fails
set_option maxRecDepth 20000 in
theorem ggX1_uses_X1_subjects : GoodIn wsX1_uses wsX1_subjects := goodIn_r _ [23, 24, 25, 26, 27, 28, 6, 29, 30, 31, 32, 33, 34, 35, 36, 37, 38, 39, 40, 41, 42, 43, 44, 45, 46, 47] (by decide +kernel) (by decide +kernel)
set_option maxRecDepth 20000 in
theorem gX1_uses_X1_subjects : GoodIn wsX1_uses (wsV RX1 79 RX1 yX1_subjects wsX1_subjects) := goodIn_app (goodIn_of _ (by decide +kernel)) ggX1_uses_X1_subjects
set_option maxRecDepth 20000 in
theorem ggX1_uses_X1_has : GoodIn wsX1_uses wsX1_has := goodIn_r _ [32] (by decide +kernel) (by decide +kernel)
set_option maxRecDepth 20000 in
theorem gX1_uses_X1_has : GoodIn wsX1_uses (va_wsS RX1 69 yX1_has wsX1_has) := goodIn_app (goodIn_of _ (by decide +kernel)) ggX1_uses_X1_has
theorem dX1_uses_0 : decode cX1_uses 0 = .ok (.aload_n 0, 1) := by decide +kernel
theorem dX1_uses_1 : decode cX1_uses 1 = .ok (.iconst 0, 1) := by decide +kernel
theorem dX1_uses_2 : decode cX1_uses 2 = .ok (.putfield 44, 3) := by decide +kernel
theorem dX1_uses_5 : decode cX1_uses 5 = .ok (.iload_n 1, 1) := by decide +kernel
theorem dX1_uses_6 : decode cX1_uses 6 = .ok (.invokestatic 66, 3) := by decide +kernel
theorem dX1_uses_9 : decode cX1_uses 9 = .ok (.ifCond .eq 11, 3) := by decide +kernel
theorem dX1_uses_12 : decode cX1_uses 12 = .ok (.aload_n 0, 1) := by decide +kernel
theorem dX1_uses_13 : decode cX1_uses 13 = .ok (.iload_n 2, 1) := by decide +kernel
theorem dX1_uses_14 : decode cX1_uses 14 = .ok (.invokevirtual 62, 3) := by decide +kernel
theorem dX1_uses_17 : decode cX1_uses 17 = .ok (.ifCond .ne 9, 3) := by decide +kernel
theorem dX1_uses_20 : decode cX1_uses 20 = .ok (.aload_n 0, 1) := by decide +kernel
theorem dX1_uses_21 : decode cX1_uses 21 = .ok (.iconst 1, 1) := by decide +kernel
theorem dX1_uses_22 : decode cX1_uses 22 = .ok (.invokevirtual 58, 3) := by decide +kernel
theorem dX1_uses_25 : decode cX1_uses 25 = .ok (.ireturn, 1) := by decide +kernel
theorem dX1_uses_26 : decode cX1_uses 26 = .ok (.iconst 0, 1) := by decide +kernel
theorem dX1_uses_27 : decode cX1_uses 27 = .ok (.istore_n 3, 1) := by decide +kernel
theorem dX1_uses_28 : decode cX1_uses 28 = .ok (.iconst 0, 1) := by decide +kernel
theorem dX1_uses_29 : decode cX1_uses 29 = .ok (.istore 4, 2) := by decide +kernel
theorem dX1_uses_31 : decode cX1_uses 31 = .ok (.iload 4, 2) := by decide +kernel
theorem dX1_uses_33 : decode cX1_uses 33 = .ok (.aload_n 0, 1) := by decide +kernel
theorem dX1_uses_34 : decode cX1_uses 34 = .ok (.getfield 55, 3) := by decide +kernel
theorem dX1_uses_37 : decode cX1_uses 37 = .ok (.if_icmp .ge 41, 3) := by decide +kernel
theorem dX1_uses_40 : decode cX1_uses 40 = .ok (.iload_n 3, 1) := by decide +kernel
theorem dX1_uses_41 : decode cX1_uses 41 = .ok (.aload_n 0, 1) := by decide +kernel
theorem dX1_uses_42 : decode cX1_uses 42 = .ok (.iload 4, 2) := by decide +kernel
theorem dX1_uses_44 : decode cX1_uses 44 = .ok (.invokevirtual 79, 3) := by decide +kernel
theorem dX1_uses_47 : decode cX1_uses 47 = .ok (.iload_n 1, 1) := by decide +kernel
theorem dX1_uses_48 : decode cX1_uses 48 = .ok (.invokestatic 69, 3) := by decide +kernel
theorem dX1_uses_51 : decode cX1_uses 51 = .ok (.ifCond .eq 18, 3) := by decide +kernel
theorem dX1_uses_54 : decode cX1_uses 54 = .ok (.aload_n 0, 1) := by decide +kernel
theorem dX1_uses_55 : decode cX1_uses 55 = .ok (.getfield 38, 3) := by decide +kernel
theorem dX1_uses_58 : decode cX1_uses 58 = .ok (.bipush 8, 2) := by decide +kernel
theorem dX1_uses_60 : decode cX1_uses 60 = .ok (.iload 4, 2) := by decide +kernel
theorem dX1_uses_62 : decode cX1_uses 62 = .ok (.imul, 1) := by decide +kernel
theorem dX1_uses_63 : decode cX1_uses 63 = .ok (.iload_n 2, 1) := by decide +kernel
theorem dX1_uses_64 : decode cX1_uses 64 = .ok (.iadd, 1) := by decide +kernel
theorem dX1_uses_65 : decode cX1_uses 65 = .ok (.iaload, 1) := by decide +kernel
theorem dX1_uses_66 : decode cX1_uses 66 = .ok (.goto 4, 3) := by decide +kernel
theorem dX1_uses_69 : decode cX1_uses 69 = .ok (.iconst 0, 1) := by decide +kernel
theorem dX1_uses_70 : decode cX1_uses 70 = .ok (.iadd, 1) := by decide +kernel
theorem dX1_uses_71 : decode cX1_uses 71 = .ok (.istore_n 3, 1) := by decide +kernel
theorem dX1_uses_72 : decode cX1_uses 72 = .ok (.iinc 4 1, 3) := by decide +kernel
theorem dX1_uses_75 : decode cX1_uses 75 = .ok (.goto (-44), 3) := by decide +kernel
theorem dX1_uses_78 : decode cX1_uses 78 = .ok (.iload_n 3, 1) := by decide +kernel
theorem dX1_uses_79 : decode cX1_uses 79 = .ok (.ireturn, 1) := by decide +kernel
set_option maxRecDepth 20000 in
theorem ggX1_asks_X1_belowOf : GoodIn wsX1_asks wsX1_belowOf := goodIn_r _ [7, 2, 8, 9, 10, 6, 11, 12, 13, 14, 15, 16, 17, 18, 19, 20, 21, 22, 23, 24, 25, 26] (by decide +kernel) (by decide +kernel)
set_option maxRecDepth 20000 in
theorem gX1_asks_X1_belowOf : GoodIn wsX1_asks (wsV RX1 101 RX1 yX1_belowOf wsX1_belowOf) := goodIn_app (goodIn_of _ (by decide +kernel)) ggX1_asks_X1_belowOf
set_option maxRecDepth 20000 in
theorem ggX1_asks_X1_has : GoodIn wsX1_asks wsX1_has := goodIn_r _ [11] (by decide +kernel) (by decide +kernel)
set_option maxRecDepth 20000 in
theorem gX1_asks_X1_has : GoodIn wsX1_asks (va_wsS RX1 69 yX1_has wsX1_has) := goodIn_app (goodIn_of _ (by decide +kernel)) ggX1_asks_X1_has
theorem dX1_asks_0 : decode cX1_asks 0 = .ok (.aload_n 0, 1) := by decide +kernel
theorem dX1_asks_1 : decode cX1_asks 1 = .ok (.getfield 35, 3) := by decide +kernel
theorem dX1_asks_4 : decode cX1_asks 4 = .ok (.iload_n 1, 1) := by decide +kernel
theorem dX1_asks_5 : decode cX1_asks 5 = .ok (.iaload, 1) := by decide +kernel
theorem dX1_asks_6 : decode cX1_asks 6 = .ok (.ifCond .ne 15, 3) := by decide +kernel
theorem dX1_asks_9 : decode cX1_asks 9 = .ok (.aload_n 0, 1) := by decide +kernel
theorem dX1_asks_10 : decode cX1_asks 10 = .ok (.iload_n 1, 1) := by decide +kernel
theorem dX1_asks_11 : decode cX1_asks 11 = .ok (.invokevirtual 101, 3) := by decide +kernel
theorem dX1_asks_14 : decode cX1_asks 14 = .ok (.iconst 1, 1) := by decide +kernel
theorem dX1_asks_15 : decode cX1_asks 15 = .ok (.iload_n 1, 1) := by decide +kernel
theorem dX1_asks_16 : decode cX1_asks 16 = .ok (.ishl, 1) := by decide +kernel
theorem dX1_asks_17 : decode cX1_asks 17 = .ok (.ior, 1) := by decide +kernel
theorem dX1_asks_18 : decode cX1_asks 18 = .ok (.goto 4, 3) := by decide +kernel
theorem dX1_asks_21 : decode cX1_asks 21 = .ok (.iconst 0, 1) := by decide +kernel
theorem dX1_asks_22 : decode cX1_asks 22 = .ok (.istore_n 2, 1) := by decide +kernel
theorem dX1_asks_23 : decode cX1_asks 23 = .ok (.iconst 0, 1) := by decide +kernel
theorem dX1_asks_24 : decode cX1_asks 24 = .ok (.istore_n 3, 1) := by decide +kernel
theorem dX1_asks_25 : decode cX1_asks 25 = .ok (.iload_n 1, 1) := by decide +kernel
theorem dX1_asks_26 : decode cX1_asks 26 = .ok (.istore 4, 2) := by decide +kernel
theorem dX1_asks_28 : decode cX1_asks 28 = .ok (.iload 4, 2) := by decide +kernel
theorem dX1_asks_30 : decode cX1_asks 30 = .ok (.aload_n 0, 1) := by decide +kernel
theorem dX1_asks_31 : decode cX1_asks 31 = .ok (.getfield 55, 3) := by decide +kernel
theorem dX1_asks_34 : decode cX1_asks 34 = .ok (.if_icmp .ge 39, 3) := by decide +kernel
theorem dX1_asks_37 : decode cX1_asks 37 = .ok (.iload_n 2, 1) := by decide +kernel
theorem dX1_asks_38 : decode cX1_asks 38 = .ok (.iload 4, 2) := by decide +kernel
theorem dX1_asks_40 : decode cX1_asks 40 = .ok (.invokestatic 69, 3) := by decide +kernel
theorem dX1_asks_43 : decode cX1_asks 43 = .ok (.ifCond .eq 24, 3) := by decide +kernel
theorem dX1_asks_46 : decode cX1_asks 46 = .ok (.aload_n 0, 1) := by decide +kernel
theorem dX1_asks_47 : decode cX1_asks 47 = .ok (.getfield 35, 3) := by decide +kernel
theorem dX1_asks_50 : decode cX1_asks 50 = .ok (.iload 4, 2) := by decide +kernel
theorem dX1_asks_52 : decode cX1_asks 52 = .ok (.iaload, 1) := by decide +kernel
theorem dX1_asks_53 : decode cX1_asks 53 = .ok (.ifCond .ne 14, 3) := by decide +kernel
theorem dX1_asks_56 : decode cX1_asks 56 = .ok (.aload_n 0, 1) := by decide +kernel
theorem dX1_asks_57 : decode cX1_asks 57 = .ok (.getfield 35, 3) := by decide +kernel
theorem dX1_asks_60 : decode cX1_asks 60 = .ok (.iload 4, 2) := by decide +kernel
theorem dX1_asks_62 : decode cX1_asks 62 = .ok (.iconst 1, 1) := by decide +kernel
theorem dX1_asks_63 : decode cX1_asks 63 = .ok (.iastore, 1) := by decide +kernel
theorem dX1_asks_64 : decode cX1_asks 64 = .ok (.iinc 3 1, 3) := by decide +kernel
theorem dX1_asks_67 : decode cX1_asks 67 = .ok (.iinc 4 1, 3) := by decide +kernel
theorem dX1_asks_70 : decode cX1_asks 70 = .ok (.goto (-42), 3) := by decide +kernel
theorem dX1_asks_73 : decode cX1_asks 73 = .ok (.iload_n 3, 1) := by decide +kernel
theorem dX1_asks_74 : decode cX1_asks 74 = .ok (.ireturn, 1) := by decide +kernel
set_option maxRecDepth 20000 in
theorem ggX1_dueSet_X1_end : GoodIn wsX1_dueSet wsX1_end := goodIn_r _ [8, 9, 10, 11, 12, 13, 7, 14, 15, 16, 17, 18, 19, 20, 21, 22, 23, 24, 25, 26, 27, 28, 29, 30, 31, 32, 33, 34, 35, 36, 37, 38, 39, 40, 41, 42, 43, 44, 45, 46, 47, 48, 49, 50] (by decide +kernel) (by decide +kernel)
set_option maxRecDepth 20000 in
theorem gX1_dueSet_X1_end : GoodIn wsX1_dueSet (wsV RX1 104 RX1 yX1_end wsX1_end) := goodIn_app (goodIn_of _ (by decide +kernel)) ggX1_dueSet_X1_end
theorem dX1_dueSet_0 : decode cX1_dueSet 0 = .ok (.iconst 0, 1) := by decide +kernel
theorem dX1_dueSet_1 : decode cX1_dueSet 1 = .ok (.istore_n 1, 1) := by decide +kernel
theorem dX1_dueSet_2 : decode cX1_dueSet 2 = .ok (.iconst 0, 1) := by decide +kernel
theorem dX1_dueSet_3 : decode cX1_dueSet 3 = .ok (.istore_n 2, 1) := by decide +kernel
theorem dX1_dueSet_4 : decode cX1_dueSet 4 = .ok (.iload_n 2, 1) := by decide +kernel
theorem dX1_dueSet_5 : decode cX1_dueSet 5 = .ok (.aload_n 0, 1) := by decide +kernel
theorem dX1_dueSet_6 : decode cX1_dueSet 6 = .ok (.getfield 55, 3) := by decide +kernel
theorem dX1_dueSet_9 : decode cX1_dueSet 9 = .ok (.if_icmp .ge 40, 3) := by decide +kernel
theorem dX1_dueSet_12 : decode cX1_dueSet 12 = .ok (.iload_n 1, 1) := by decide +kernel
theorem dX1_dueSet_13 : decode cX1_dueSet 13 = .ok (.aload_n 0, 1) := by decide +kernel
theorem dX1_dueSet_14 : decode cX1_dueSet 14 = .ok (.getfield 35, 3) := by decide +kernel
theorem dX1_dueSet_17 : decode cX1_dueSet 17 = .ok (.iload_n 2, 1) := by decide +kernel
theorem dX1_dueSet_18 : decode cX1_dueSet 18 = .ok (.iaload, 1) := by decide +kernel
theorem dX1_dueSet_19 : decode cX1_dueSet 19 = .ok (.ifCond .ne 21, 3) := by decide +kernel
theorem dX1_dueSet_22 : decode cX1_dueSet 22 = .ok (.aload_n 0, 1) := by decide +kernel
theorem dX1_dueSet_23 : decode cX1_dueSet 23 = .ok (.iload_n 2, 1) := by decide +kernel
theorem dX1_dueSet_24 : decode cX1_dueSet 24 = .ok (.invokevirtual 104, 3) := by decide +kernel
theorem dX1_dueSet_27 : decode cX1_dueSet 27 = .ok (.aload_n 0, 1) := by decide +kernel
theorem dX1_dueSet_28 : decode cX1_dueSet 28 = .ok (.getfield 86, 3) := by decide +kernel
theorem dX1_dueSet_31 : decode cX1_dueSet 31 = .ok (.if_icmp .gt 9, 3) := by decide +kernel
theorem dX1_dueSet_34 : decode cX1_dueSet 34 = .ok (.iconst 1, 1) := by decide +kernel
theorem dX1_dueSet_35 : decode cX1_dueSet 35 = .ok (.iload_n 2, 1) := by decide +kernel
theorem dX1_dueSet_36 : decode cX1_dueSet 36 = .ok (.ishl, 1) := by decide +kernel
theorem dX1_dueSet_37 : decode cX1_dueSet 37 = .ok (.goto 4, 3) := by decide +kernel
theorem dX1_dueSet_40 : decode cX1_dueSet 40 = .ok (.iconst 0, 1) := by decide +kernel
theorem dX1_dueSet_41 : decode cX1_dueSet 41 = .ok (.ior, 1) := by decide +kernel
theorem dX1_dueSet_42 : decode cX1_dueSet 42 = .ok (.istore_n 1, 1) := by decide +kernel
theorem dX1_dueSet_43 : decode cX1_dueSet 43 = .ok (.iinc 2 1, 3) := by decide +kernel
theorem dX1_dueSet_46 : decode cX1_dueSet 46 = .ok (.goto (-42), 3) := by decide +kernel
theorem dX1_dueSet_49 : decode cX1_dueSet 49 = .ok (.iload_n 1, 1) := by decide +kernel
theorem dX1_dueSet_50 : decode cX1_dueSet 50 = .ok (.ireturn, 1) := by decide +kernel
set_option maxRecDepth 20000 in
theorem ggX1_passDays_X1_in : GoodIn wsX1_passDays wsX1_in := goodIn_r _ [9] (by decide +kernel) (by decide +kernel)
set_option maxRecDepth 20000 in
theorem gX1_passDays_X1_in : GoodIn wsX1_passDays (va_wsS RX1 48 yX1_in wsX1_in) := goodIn_app (goodIn_of _ (by decide +kernel)) ggX1_passDays_X1_in
set_option maxRecDepth 20000 in
theorem ggX1_passDays_X1_fails : GoodIn wsX1_passDays wsX1_fails := goodIn_r _ [13, 1, 57, 58, 59, 60, 61, 62, 63, 64, 65, 66, 67, 68, 69, 70, 71] (by decide +kernel) (by decide +kernel)
set_option maxRecDepth 20000 in
theorem gX1_passDays_X1_fails : GoodIn wsX1_passDays (wsV RX1 58 RX1 yX1_fails wsX1_fails) := goodIn_app (goodIn_of _ (by decide +kernel)) ggX1_passDays_X1_fails
set_option maxRecDepth 20000 in
theorem ggX1_passDays_X1_has : GoodIn wsX1_passDays wsX1_has := goodIn_r _ [16] (by decide +kernel) (by decide +kernel)
set_option maxRecDepth 20000 in
theorem gX1_passDays_X1_has : GoodIn wsX1_passDays (va_wsS RX1 69 yX1_has wsX1_has) := goodIn_app (goodIn_of _ (by decide +kernel)) ggX1_passDays_X1_has
set_option maxRecDepth 20000 in
theorem ggX1_passDays_X1_dueSet : GoodIn wsX1_passDays wsX1_dueSet := goodIn_r _ [20, 5, 21, 4, 22, 23, 24, 8, 25, 26, 27, 28, 29, 30, 31, 32, 33, 34, 35, 36, 37, 14, 15, 16, 38, 39, 40, 41, 42, 43, 44, 45, 46, 47, 48, 3, 57, 58, 59, 60, 61, 62, 63, 64, 65, 66, 67, 68, 69, 70, 71] (by decide +kernel) (by decide +kernel)
set_option maxRecDepth 20000 in
theorem gX1_passDays_X1_dueSet : GoodIn wsX1_passDays (wsV RX1 111 RX1 yX1_dueSet wsX1_dueSet) := goodIn_app (goodIn_of _ (by decide +kernel)) ggX1_passDays_X1_dueSet
set_option maxRecDepth 20000 in
theorem ggX1_passDays_X1_asks : GoodIn wsX1_passDays wsX1_asks := goodIn_r _ [52, 21, 5, 53, 54, 55, 8, 56, 32, 14, 15, 16, 57, 58, 59, 60, 61, 62, 63, 64, 65, 66, 67, 68, 69, 70, 71] (by decide +kernel) (by decide +kernel)
set_option maxRecDepth 20000 in
theorem gX1_passDays_X1_asks : GoodIn wsX1_passDays (wsV RX1 115 RX1 yX1_asks wsX1_asks) := goodIn_app (goodIn_of _ (by decide +kernel)) ggX1_passDays_X1_asks
theorem dX1_passDays_0 : decode cX1_passDays 0 = .ok (.aload_n 0, 1) := by decide +kernel
theorem dX1_passDays_1 : decode cX1_passDays 1 = .ok (.iconst 0, 1) := by decide +kernel
theorem dX1_passDays_2 : decode cX1_passDays 2 = .ok (.putfield 44, 3) := by decide +kernel
theorem dX1_passDays_5 : decode cX1_passDays 5 = .ok (.iload_n 1, 1) := by decide +kernel
theorem dX1_passDays_6 : decode cX1_passDays 6 = .ok (.iconst 1, 1) := by decide +kernel
theorem dX1_passDays_7 : decode cX1_passDays 7 = .ok (.sipush 1000, 3) := by decide +kernel
theorem dX1_passDays_10 : decode cX1_passDays 10 = .ok (.invokestatic 48, 3) := by decide +kernel
theorem dX1_passDays_13 : decode cX1_passDays 13 = .ok (.ifCond .ne 9, 3) := by decide +kernel
theorem dX1_passDays_16 : decode cX1_passDays 16 = .ok (.aload_n 0, 1) := by decide +kernel
theorem dX1_passDays_17 : decode cX1_passDays 17 = .ok (.iconst 1, 1) := by decide +kernel
theorem dX1_passDays_18 : decode cX1_passDays 18 = .ok (.invokevirtual 58, 3) := by decide +kernel
theorem dX1_passDays_21 : decode cX1_passDays 21 = .ok (.ireturn, 1) := by decide +kernel
theorem dX1_passDays_22 : decode cX1_passDays 22 = .ok (.iconst 0, 1) := by decide +kernel
theorem dX1_passDays_23 : decode cX1_passDays 23 = .ok (.istore_n 2, 1) := by decide +kernel
theorem dX1_passDays_24 : decode cX1_passDays 24 = .ok (.iload_n 2, 1) := by decide +kernel
theorem dX1_passDays_25 : decode cX1_passDays 25 = .ok (.bipush 96, 2) := by decide +kernel
theorem dX1_passDays_27 : decode cX1_passDays 27 = .ok (.if_icmp .ge 42, 3) := by decide +kernel
theorem dX1_passDays_30 : decode cX1_passDays 30 = .ok (.aload_n 0, 1) := by decide +kernel
theorem dX1_passDays_31 : decode cX1_passDays 31 = .ok (.getfield 20, 3) := by decide +kernel
theorem dX1_passDays_34 : decode cX1_passDays 34 = .ok (.iload_n 2, 1) := by decide +kernel
theorem dX1_passDays_35 : decode cX1_passDays 35 = .ok (.dup2, 1) := by decide +kernel
theorem dX1_passDays_36 : decode cX1_passDays 36 = .ok (.iaload, 1) := by decide +kernel
theorem dX1_passDays_37 : decode cX1_passDays 37 = .ok (.aload_n 0, 1) := by decide +kernel
theorem dX1_passDays_38 : decode cX1_passDays 38 = .ok (.getfield 17, 3) := by decide +kernel
theorem dX1_passDays_41 : decode cX1_passDays 41 = .ok (.iload_n 2, 1) := by decide +kernel
theorem dX1_passDays_42 : decode cX1_passDays 42 = .ok (.bipush 8, 2) := by decide +kernel
theorem dX1_passDays_44 : decode cX1_passDays 44 = .ok (.idiv, 1) := by decide +kernel
theorem dX1_passDays_45 : decode cX1_passDays 45 = .ok (.iaload, 1) := by decide +kernel
theorem dX1_passDays_46 : decode cX1_passDays 46 = .ok (.iload_n 2, 1) := by decide +kernel
theorem dX1_passDays_47 : decode cX1_passDays 47 = .ok (.bipush 8, 2) := by decide +kernel
theorem dX1_passDays_49 : decode cX1_passDays 49 = .ok (.irem, 1) := by decide +kernel
theorem dX1_passDays_50 : decode cX1_passDays 50 = .ok (.invokestatic 69, 3) := by decide +kernel
theorem dX1_passDays_53 : decode cX1_passDays 53 = .ok (.ifCond .eq 7, 3) := by decide +kernel
theorem dX1_passDays_56 : decode cX1_passDays 56 = .ok (.iload_n 1, 1) := by decide +kernel
theorem dX1_passDays_57 : decode cX1_passDays 57 = .ok (.goto 4, 3) := by decide +kernel
theorem dX1_passDays_60 : decode cX1_passDays 60 = .ok (.iconst 0, 1) := by decide +kernel
theorem dX1_passDays_61 : decode cX1_passDays 61 = .ok (.iadd, 1) := by decide +kernel
theorem dX1_passDays_62 : decode cX1_passDays 62 = .ok (.iastore, 1) := by decide +kernel
theorem dX1_passDays_63 : decode cX1_passDays 63 = .ok (.iinc 2 1, 3) := by decide +kernel
theorem dX1_passDays_66 : decode cX1_passDays 66 = .ok (.goto (-42), 3) := by decide +kernel
theorem dX1_passDays_69 : decode cX1_passDays 69 = .ok (.aload_n 0, 1) := by decide +kernel
theorem dX1_passDays_70 : decode cX1_passDays 70 = .ok (.dup, 1) := by decide +kernel
theorem dX1_passDays_71 : decode cX1_passDays 71 = .ok (.getfield 86, 3) := by decide +kernel
theorem dX1_passDays_74 : decode cX1_passDays 74 = .ok (.iload_n 1, 1) := by decide +kernel
theorem dX1_passDays_75 : decode cX1_passDays 75 = .ok (.iadd, 1) := by decide +kernel
theorem dX1_passDays_76 : decode cX1_passDays 76 = .ok (.putfield 86, 3) := by decide +kernel
theorem dX1_passDays_79 : decode cX1_passDays 79 = .ok (.iconst 0, 1) := by decide +kernel
theorem dX1_passDays_80 : decode cX1_passDays 80 = .ok (.istore_n 2, 1) := by decide +kernel
theorem dX1_passDays_81 : decode cX1_passDays 81 = .ok (.aload_n 0, 1) := by decide +kernel
theorem dX1_passDays_82 : decode cX1_passDays 82 = .ok (.invokevirtual 111, 3) := by decide +kernel
theorem dX1_passDays_85 : decode cX1_passDays 85 = .ok (.istore_n 3, 1) := by decide +kernel
theorem dX1_passDays_86 : decode cX1_passDays 86 = .ok (.iconst 0, 1) := by decide +kernel
theorem dX1_passDays_87 : decode cX1_passDays 87 = .ok (.istore 4, 2) := by decide +kernel
theorem dX1_passDays_89 : decode cX1_passDays 89 = .ok (.iload 4, 2) := by decide +kernel
theorem dX1_passDays_91 : decode cX1_passDays 91 = .ok (.aload_n 0, 1) := by decide +kernel
theorem dX1_passDays_92 : decode cX1_passDays 92 = .ok (.getfield 55, 3) := by decide +kernel
theorem dX1_passDays_95 : decode cX1_passDays 95 = .ok (.if_icmp .ge 31, 3) := by decide +kernel
theorem dX1_passDays_98 : decode cX1_passDays 98 = .ok (.iload_n 2, 1) := by decide +kernel
theorem dX1_passDays_99 : decode cX1_passDays 99 = .ok (.iload_n 3, 1) := by decide +kernel
theorem dX1_passDays_100 : decode cX1_passDays 100 = .ok (.iload 4, 2) := by decide +kernel
theorem dX1_passDays_102 : decode cX1_passDays 102 = .ok (.invokestatic 69, 3) := by decide +kernel
theorem dX1_passDays_105 : decode cX1_passDays 105 = .ok (.ifCond .eq 12, 3) := by decide +kernel
theorem dX1_passDays_108 : decode cX1_passDays 108 = .ok (.aload_n 0, 1) := by decide +kernel
theorem dX1_passDays_109 : decode cX1_passDays 109 = .ok (.iload 4, 2) := by decide +kernel
theorem dX1_passDays_111 : decode cX1_passDays 111 = .ok (.invokevirtual 115, 3) := by decide +kernel
theorem dX1_passDays_114 : decode cX1_passDays 114 = .ok (.goto 4, 3) := by decide +kernel
theorem dX1_passDays_117 : decode cX1_passDays 117 = .ok (.iconst 0, 1) := by decide +kernel
theorem dX1_passDays_118 : decode cX1_passDays 118 = .ok (.iadd, 1) := by decide +kernel
theorem dX1_passDays_119 : decode cX1_passDays 119 = .ok (.istore_n 2, 1) := by decide +kernel
theorem dX1_passDays_120 : decode cX1_passDays 120 = .ok (.iinc 4 1, 3) := by decide +kernel
theorem dX1_passDays_123 : decode cX1_passDays 123 = .ok (.goto (-34), 3) := by decide +kernel
theorem dX1_passDays_126 : decode cX1_passDays 126 = .ok (.iload_n 2, 1) := by decide +kernel
theorem dX1_passDays_127 : decode cX1_passDays 127 = .ok (.ireturn, 1) := by decide +kernel
theorem dX1_day_0 : decode cX1_day 0 = .ok (.aload_n 0, 1) := by decide +kernel
theorem dX1_day_1 : decode cX1_day 1 = .ok (.iconst 0, 1) := by decide +kernel
theorem dX1_day_2 : decode cX1_day 2 = .ok (.putfield 44, 3) := by decide +kernel
theorem dX1_day_5 : decode cX1_day 5 = .ok (.aload_n 0, 1) := by decide +kernel
theorem dX1_day_6 : decode cX1_day 6 = .ok (.getfield 86, 3) := by decide +kernel
theorem dX1_day_9 : decode cX1_day 9 = .ok (.ireturn, 1) := by decide +kernel
set_option maxRecDepth 20000 in
theorem ggX1_nextEnd_X1_end : GoodIn wsX1_nextEnd wsX1_end := goodIn_r _ [8, 9, 10, 11, 12, 13, 7, 14, 15, 16, 17, 18, 19, 20, 21, 22, 23, 24, 25, 26, 27, 28, 29, 30, 31, 32, 33, 34, 35, 36, 37, 38, 39, 40, 41, 42, 43, 44, 45, 46, 47, 48, 49, 50] (by decide +kernel) (by decide +kernel)
set_option maxRecDepth 20000 in
theorem gX1_nextEnd_X1_end : GoodIn wsX1_nextEnd (wsV RX1 104 RX1 yX1_end wsX1_end) := goodIn_app (goodIn_of _ (by decide +kernel)) ggX1_nextEnd_X1_end
theorem dX1_nextEnd_0 : decode cX1_nextEnd 0 = .ok (.aload_n 0, 1) := by decide +kernel
theorem dX1_nextEnd_1 : decode cX1_nextEnd 1 = .ok (.iconst 0, 1) := by decide +kernel
theorem dX1_nextEnd_2 : decode cX1_nextEnd 2 = .ok (.putfield 44, 3) := by decide +kernel
theorem dX1_nextEnd_5 : decode cX1_nextEnd 5 = .ok (.iconst (-1), 1) := by decide +kernel
theorem dX1_nextEnd_6 : decode cX1_nextEnd 6 = .ok (.istore_n 1, 1) := by decide +kernel
theorem dX1_nextEnd_7 : decode cX1_nextEnd 7 = .ok (.iconst 0, 1) := by decide +kernel
theorem dX1_nextEnd_8 : decode cX1_nextEnd 8 = .ok (.istore_n 2, 1) := by decide +kernel
theorem dX1_nextEnd_9 : decode cX1_nextEnd 9 = .ok (.iload_n 2, 1) := by decide +kernel
theorem dX1_nextEnd_10 : decode cX1_nextEnd 10 = .ok (.aload_n 0, 1) := by decide +kernel
theorem dX1_nextEnd_11 : decode cX1_nextEnd 11 = .ok (.getfield 55, 3) := by decide +kernel
theorem dX1_nextEnd_14 : decode cX1_nextEnd 14 = .ok (.if_icmp .ge 42, 3) := by decide +kernel
theorem dX1_nextEnd_17 : decode cX1_nextEnd 17 = .ok (.aload_n 0, 1) := by decide +kernel
theorem dX1_nextEnd_18 : decode cX1_nextEnd 18 = .ok (.getfield 35, 3) := by decide +kernel
theorem dX1_nextEnd_21 : decode cX1_nextEnd 21 = .ok (.iload_n 2, 1) := by decide +kernel
theorem dX1_nextEnd_22 : decode cX1_nextEnd 22 = .ok (.iaload, 1) := by decide +kernel
theorem dX1_nextEnd_23 : decode cX1_nextEnd 23 = .ok (.ifCond .ne 25, 3) := by decide +kernel
theorem dX1_nextEnd_26 : decode cX1_nextEnd 26 = .ok (.iload_n 1, 1) := by decide +kernel
theorem dX1_nextEnd_27 : decode cX1_nextEnd 27 = .ok (.iconst (-1), 1) := by decide +kernel
theorem dX1_nextEnd_28 : decode cX1_nextEnd 28 = .ok (.if_icmp .eq 12, 3) := by decide +kernel
theorem dX1_nextEnd_31 : decode cX1_nextEnd 31 = .ok (.aload_n 0, 1) := by decide +kernel
theorem dX1_nextEnd_32 : decode cX1_nextEnd 32 = .ok (.iload_n 2, 1) := by decide +kernel
theorem dX1_nextEnd_33 : decode cX1_nextEnd 33 = .ok (.invokevirtual 104, 3) := by decide +kernel
theorem dX1_nextEnd_36 : decode cX1_nextEnd 36 = .ok (.iload_n 1, 1) := by decide +kernel
theorem dX1_nextEnd_37 : decode cX1_nextEnd 37 = .ok (.if_icmp .ge 11, 3) := by decide +kernel
theorem dX1_nextEnd_40 : decode cX1_nextEnd 40 = .ok (.aload_n 0, 1) := by decide +kernel
theorem dX1_nextEnd_41 : decode cX1_nextEnd 41 = .ok (.iload_n 2, 1) := by decide +kernel
theorem dX1_nextEnd_42 : decode cX1_nextEnd 42 = .ok (.invokevirtual 104, 3) := by decide +kernel
theorem dX1_nextEnd_45 : decode cX1_nextEnd 45 = .ok (.goto 4, 3) := by decide +kernel
theorem dX1_nextEnd_48 : decode cX1_nextEnd 48 = .ok (.iload_n 1, 1) := by decide +kernel
theorem dX1_nextEnd_49 : decode cX1_nextEnd 49 = .ok (.istore_n 1, 1) := by decide +kernel
theorem dX1_nextEnd_50 : decode cX1_nextEnd 50 = .ok (.iinc 2 1, 3) := by decide +kernel
theorem dX1_nextEnd_53 : decode cX1_nextEnd 53 = .ok (.goto (-44), 3) := by decide +kernel
theorem dX1_nextEnd_56 : decode cX1_nextEnd 56 = .ok (.iload_n 1, 1) := by decide +kernel
theorem dX1_nextEnd_57 : decode cX1_nextEnd 57 = .ok (.ireturn, 1) := by decide +kernel
theorem dX1_heldSet_0 : decode cX1_heldSet 0 = .ok (.iconst 0, 1) := by decide +kernel
theorem dX1_heldSet_1 : decode cX1_heldSet 1 = .ok (.istore_n 1, 1) := by decide +kernel
theorem dX1_heldSet_2 : decode cX1_heldSet 2 = .ok (.iconst 0, 1) := by decide +kernel
theorem dX1_heldSet_3 : decode cX1_heldSet 3 = .ok (.istore_n 2, 1) := by decide +kernel
theorem dX1_heldSet_4 : decode cX1_heldSet 4 = .ok (.iload_n 2, 1) := by decide +kernel
theorem dX1_heldSet_5 : decode cX1_heldSet 5 = .ok (.bipush 6, 2) := by decide +kernel
theorem dX1_heldSet_7 : decode cX1_heldSet 7 = .ok (.if_icmp .ge 18, 3) := by decide +kernel
theorem dX1_heldSet_10 : decode cX1_heldSet 10 = .ok (.iload_n 1, 1) := by decide +kernel
theorem dX1_heldSet_11 : decode cX1_heldSet 11 = .ok (.aload_n 0, 1) := by decide +kernel
theorem dX1_heldSet_12 : decode cX1_heldSet 12 = .ok (.getfield 41, 3) := by decide +kernel
theorem dX1_heldSet_15 : decode cX1_heldSet 15 = .ok (.iload_n 2, 1) := by decide +kernel
theorem dX1_heldSet_16 : decode cX1_heldSet 16 = .ok (.iaload, 1) := by decide +kernel
theorem dX1_heldSet_17 : decode cX1_heldSet 17 = .ok (.ior, 1) := by decide +kernel
theorem dX1_heldSet_18 : decode cX1_heldSet 18 = .ok (.istore_n 1, 1) := by decide +kernel
theorem dX1_heldSet_19 : decode cX1_heldSet 19 = .ok (.iinc 2 1, 3) := by decide +kernel
theorem dX1_heldSet_22 : decode cX1_heldSet 22 = .ok (.goto (-18), 3) := by decide +kernel
theorem dX1_heldSet_25 : decode cX1_heldSet 25 = .ok (.iload_n 1, 1) := by decide +kernel
theorem dX1_heldSet_26 : decode cX1_heldSet 26 = .ok (.ireturn, 1) := by decide +kernel
set_option maxRecDepth 20000 in
theorem ggX1_hold_X1_in : GoodIn wsX1_hold wsX1_in := goodIn_r _ [7] (by decide +kernel) (by decide +kernel)
set_option maxRecDepth 20000 in
theorem gX1_hold_X1_in : GoodIn wsX1_hold (va_wsS RX1 48 yX1_in wsX1_in) := goodIn_app (goodIn_of _ (by decide +kernel)) ggX1_hold_X1_in
set_option maxRecDepth 20000 in
theorem ggX1_hold_X1_isRecord : GoodIn wsX1_hold wsX1_isRecord := goodIn_r _ [11, 12, 4, 5, 6, 7, 23, 24, 25, 26, 27, 28, 29, 30, 31, 32, 33, 34, 35, 36, 37] (by decide +kernel) (by decide +kernel)
set_option maxRecDepth 20000 in
theorem gX1_hold_X1_isRecord : GoodIn wsX1_hold (wsV RX1 95 RX1 yX1_isRecord wsX1_isRecord) := goodIn_app (goodIn_of _ (by decide +kernel)) ggX1_hold_X1_isRecord
set_option maxRecDepth 20000 in
theorem ggX1_hold_X1_fails : GoodIn wsX1_hold wsX1_fails := goodIn_r _ [16, 1, 23, 24, 25, 26, 27, 28, 29, 30, 31, 32, 33, 34, 35, 36, 37] (by decide +kernel) (by decide +kernel)
set_option maxRecDepth 20000 in
theorem gX1_hold_X1_fails : GoodIn wsX1_hold (wsV RX1 58 RX1 yX1_fails wsX1_fails) := goodIn_app (goodIn_of _ (by decide +kernel)) ggX1_hold_X1_fails
set_option maxRecDepth 20000 in
theorem ggX1_hold_X1_has : GoodIn wsX1_hold wsX1_has := goodIn_r _ [19] (by decide +kernel) (by decide +kernel)
set_option maxRecDepth 20000 in
theorem gX1_hold_X1_has : GoodIn wsX1_hold (va_wsS RX1 69 yX1_has wsX1_has) := goodIn_app (goodIn_of _ (by decide +kernel)) ggX1_hold_X1_has
set_option maxRecDepth 20000 in
theorem ggX1_hold_X1_sizeOf : GoodIn wsX1_hold wsX1_sizeOf := goodIn_r _ [22] (by decide +kernel) (by decide +kernel)
set_option maxRecDepth 20000 in
theorem gX1_hold_X1_sizeOf : GoodIn wsX1_hold (va_wsS RX1 98 yX1_sizeOf wsX1_sizeOf) := goodIn_app (goodIn_of _ (by decide +kernel)) ggX1_hold_X1_sizeOf
theorem dX1_hold_0 : decode cX1_hold 0 = .ok (.aload_n 0, 1) := by decide +kernel
theorem dX1_hold_1 : decode cX1_hold 1 = .ok (.iconst 0, 1) := by decide +kernel
theorem dX1_hold_2 : decode cX1_hold 2 = .ok (.putfield 44, 3) := by decide +kernel
theorem dX1_hold_5 : decode cX1_hold 5 = .ok (.iload_n 1, 1) := by decide +kernel
theorem dX1_hold_6 : decode cX1_hold 6 = .ok (.iconst 0, 1) := by decide +kernel
theorem dX1_hold_7 : decode cX1_hold 7 = .ok (.iconst 5, 1) := by decide +kernel
theorem dX1_hold_8 : decode cX1_hold 8 = .ok (.invokestatic 48, 3) := by decide +kernel
theorem dX1_hold_11 : decode cX1_hold 11 = .ok (.ifCond .eq 11, 3) := by decide +kernel
theorem dX1_hold_14 : decode cX1_hold 14 = .ok (.aload_n 0, 1) := by decide +kernel
theorem dX1_hold_15 : decode cX1_hold 15 = .ok (.iload_n 2, 1) := by decide +kernel
theorem dX1_hold_16 : decode cX1_hold 16 = .ok (.invokevirtual 95, 3) := by decide +kernel
theorem dX1_hold_19 : decode cX1_hold 19 = .ok (.ifCond .ne 9, 3) := by decide +kernel
theorem dX1_hold_22 : decode cX1_hold 22 = .ok (.aload_n 0, 1) := by decide +kernel
theorem dX1_hold_23 : decode cX1_hold 23 = .ok (.iconst 1, 1) := by decide +kernel
theorem dX1_hold_24 : decode cX1_hold 24 = .ok (.invokevirtual 58, 3) := by decide +kernel
theorem dX1_hold_27 : decode cX1_hold 27 = .ok (.ireturn, 1) := by decide +kernel
theorem dX1_hold_28 : decode cX1_hold 28 = .ok (.aload_n 0, 1) := by decide +kernel
theorem dX1_hold_29 : decode cX1_hold 29 = .ok (.getfield 35, 3) := by decide +kernel
theorem dX1_hold_32 : decode cX1_hold 32 = .ok (.iload_n 2, 1) := by decide +kernel
theorem dX1_hold_33 : decode cX1_hold 33 = .ok (.iaload, 1) := by decide +kernel
theorem dX1_hold_34 : decode cX1_hold 34 = .ok (.iconst 2, 1) := by decide +kernel
theorem dX1_hold_35 : decode cX1_hold 35 = .ok (.if_icmp .eq 16, 3) := by decide +kernel
theorem dX1_hold_38 : decode cX1_hold 38 = .ok (.aload_n 0, 1) := by decide +kernel
theorem dX1_hold_39 : decode cX1_hold 39 = .ok (.getfield 41, 3) := by decide +kernel
theorem dX1_hold_42 : decode cX1_hold 42 = .ok (.iload_n 1, 1) := by decide +kernel
theorem dX1_hold_43 : decode cX1_hold 43 = .ok (.iaload, 1) := by decide +kernel
theorem dX1_hold_44 : decode cX1_hold 44 = .ok (.iload_n 2, 1) := by decide +kernel
theorem dX1_hold_45 : decode cX1_hold 45 = .ok (.invokestatic 69, 3) := by decide +kernel
theorem dX1_hold_48 : decode cX1_hold 48 = .ok (.ifCond .eq 9, 3) := by decide +kernel
theorem dX1_hold_51 : decode cX1_hold 51 = .ok (.aload_n 0, 1) := by decide +kernel
theorem dX1_hold_52 : decode cX1_hold 52 = .ok (.iconst 2, 1) := by decide +kernel
theorem dX1_hold_53 : decode cX1_hold 53 = .ok (.invokevirtual 58, 3) := by decide +kernel
theorem dX1_hold_56 : decode cX1_hold 56 = .ok (.ireturn, 1) := by decide +kernel
theorem dX1_hold_57 : decode cX1_hold 57 = .ok (.aload_n 0, 1) := by decide +kernel
theorem dX1_hold_58 : decode cX1_hold 58 = .ok (.getfield 41, 3) := by decide +kernel
theorem dX1_hold_61 : decode cX1_hold 61 = .ok (.iload_n 1, 1) := by decide +kernel
theorem dX1_hold_62 : decode cX1_hold 62 = .ok (.dup2, 1) := by decide +kernel
theorem dX1_hold_63 : decode cX1_hold 63 = .ok (.iaload, 1) := by decide +kernel
theorem dX1_hold_64 : decode cX1_hold 64 = .ok (.iconst 1, 1) := by decide +kernel
theorem dX1_hold_65 : decode cX1_hold 65 = .ok (.iload_n 2, 1) := by decide +kernel
theorem dX1_hold_66 : decode cX1_hold 66 = .ok (.ishl, 1) := by decide +kernel
theorem dX1_hold_67 : decode cX1_hold 67 = .ok (.ior, 1) := by decide +kernel
theorem dX1_hold_68 : decode cX1_hold 68 = .ok (.iastore, 1) := by decide +kernel
theorem dX1_hold_69 : decode cX1_hold 69 = .ok (.aload_n 0, 1) := by decide +kernel
theorem dX1_hold_70 : decode cX1_hold 70 = .ok (.getfield 41, 3) := by decide +kernel
theorem dX1_hold_73 : decode cX1_hold 73 = .ok (.iload_n 1, 1) := by decide +kernel
theorem dX1_hold_74 : decode cX1_hold 74 = .ok (.iaload, 1) := by decide +kernel
theorem dX1_hold_75 : decode cX1_hold 75 = .ok (.invokestatic 98, 3) := by decide +kernel
theorem dX1_hold_78 : decode cX1_hold 78 = .ok (.ireturn, 1) := by decide +kernel
set_option maxRecDepth 20000 in
theorem ggX1_close_X1_in : GoodIn wsX1_close wsX1_in := goodIn_r _ [6] (by decide +kernel) (by decide +kernel)
set_option maxRecDepth 20000 in
theorem gX1_close_X1_in : GoodIn wsX1_close (va_wsS RX1 48 yX1_in wsX1_in) := goodIn_app (goodIn_of _ (by decide +kernel)) ggX1_close_X1_in
set_option maxRecDepth 20000 in
theorem ggX1_close_X1_fails : GoodIn wsX1_close wsX1_fails := goodIn_r _ [10, 1, 18, 19, 20, 21, 22, 23, 24, 25, 26, 27, 28, 29, 30, 31, 32] (by decide +kernel) (by decide +kernel)
set_option maxRecDepth 20000 in
theorem gX1_close_X1_fails : GoodIn wsX1_close (wsV RX1 58 RX1 yX1_fails wsX1_fails) := goodIn_app (goodIn_of _ (by decide +kernel)) ggX1_close_X1_fails
set_option maxRecDepth 20000 in
theorem ggX1_close_X1_heldSet : GoodIn wsX1_close wsX1_heldSet := goodIn_r _ [14, 2, 18, 19, 20, 21, 22, 23, 24, 25, 26, 27, 28, 29, 30, 31, 32] (by decide +kernel) (by decide +kernel)
set_option maxRecDepth 20000 in
theorem gX1_close_X1_heldSet : GoodIn wsX1_close (wsV RX1 118 RX1 yX1_heldSet wsX1_heldSet) := goodIn_app (goodIn_of _ (by decide +kernel)) ggX1_close_X1_heldSet
set_option maxRecDepth 20000 in
theorem ggX1_close_X1_sizeOf : GoodIn wsX1_close wsX1_sizeOf := goodIn_r _ [17] (by decide +kernel) (by decide +kernel)
set_option maxRecDepth 20000 in
theorem gX1_close_X1_sizeOf : GoodIn wsX1_close (va_wsS RX1 98 yX1_sizeOf wsX1_sizeOf) := goodIn_app (goodIn_of _ (by decide +kernel)) ggX1_close_X1_sizeOf
theorem dX1_close_0 : decode cX1_close 0 = .ok (.aload_n 0, 1) := by decide +kernel
theorem dX1_close_1 : decode cX1_close 1 = .ok (.iconst 0, 1) := by decide +kernel
theorem dX1_close_2 : decode cX1_close 2 = .ok (.putfield 44, 3) := by decide +kernel
theorem dX1_close_5 : decode cX1_close 5 = .ok (.iload_n 1, 1) := by decide +kernel
theorem dX1_close_6 : decode cX1_close 6 = .ok (.iconst 0, 1) := by decide +kernel
theorem dX1_close_7 : decode cX1_close 7 = .ok (.iconst 5, 1) := by decide +kernel
theorem dX1_close_8 : decode cX1_close 8 = .ok (.invokestatic 48, 3) := by decide +kernel
theorem dX1_close_11 : decode cX1_close 11 = .ok (.ifCond .ne 9, 3) := by decide +kernel
theorem dX1_close_14 : decode cX1_close 14 = .ok (.aload_n 0, 1) := by decide +kernel
theorem dX1_close_15 : decode cX1_close 15 = .ok (.iconst 1, 1) := by decide +kernel
theorem dX1_close_16 : decode cX1_close 16 = .ok (.invokevirtual 58, 3) := by decide +kernel
theorem dX1_close_19 : decode cX1_close 19 = .ok (.ireturn, 1) := by decide +kernel
theorem dX1_close_20 : decode cX1_close 20 = .ok (.aload_n 0, 1) := by decide +kernel
theorem dX1_close_21 : decode cX1_close 21 = .ok (.invokevirtual 118, 3) := by decide +kernel
theorem dX1_close_24 : decode cX1_close 24 = .ok (.invokestatic 98, 3) := by decide +kernel
theorem dX1_close_27 : decode cX1_close 27 = .ok (.istore_n 2, 1) := by decide +kernel
theorem dX1_close_28 : decode cX1_close 28 = .ok (.aload_n 0, 1) := by decide +kernel
theorem dX1_close_29 : decode cX1_close 29 = .ok (.getfield 41, 3) := by decide +kernel
theorem dX1_close_32 : decode cX1_close 32 = .ok (.iload_n 1, 1) := by decide +kernel
theorem dX1_close_33 : decode cX1_close 33 = .ok (.iconst 0, 1) := by decide +kernel
theorem dX1_close_34 : decode cX1_close 34 = .ok (.iastore, 1) := by decide +kernel
theorem dX1_close_35 : decode cX1_close 35 = .ok (.iload_n 2, 1) := by decide +kernel
theorem dX1_close_36 : decode cX1_close 36 = .ok (.aload_n 0, 1) := by decide +kernel
theorem dX1_close_37 : decode cX1_close 37 = .ok (.invokevirtual 118, 3) := by decide +kernel
theorem dX1_close_40 : decode cX1_close 40 = .ok (.invokestatic 98, 3) := by decide +kernel
theorem dX1_close_43 : decode cX1_close 43 = .ok (.isub, 1) := by decide +kernel
theorem dX1_close_44 : decode cX1_close 44 = .ok (.ireturn, 1) := by decide +kernel
set_option maxRecDepth 20000 in
theorem ggX1_held_X1_heldSet : GoodIn wsX1_held wsX1_heldSet := goodIn_r _ [6, 7, 8, 9, 10, 11, 12, 13, 14, 15, 16, 17, 18, 19, 20, 21, 22] (by decide +kernel) (by decide +kernel)
set_option maxRecDepth 20000 in
theorem gX1_held_X1_heldSet : GoodIn wsX1_held (wsV RX1 118 RX1 yX1_heldSet wsX1_heldSet) := goodIn_app (goodIn_of _ (by decide +kernel)) ggX1_held_X1_heldSet
theorem dX1_held_0 : decode cX1_held 0 = .ok (.aload_n 0, 1) := by decide +kernel
theorem dX1_held_1 : decode cX1_held 1 = .ok (.iconst 0, 1) := by decide +kernel
theorem dX1_held_2 : decode cX1_held 2 = .ok (.putfield 44, 3) := by decide +kernel
theorem dX1_held_5 : decode cX1_held 5 = .ok (.aload_n 0, 1) := by decide +kernel
theorem dX1_held_6 : decode cX1_held 6 = .ok (.invokevirtual 118, 3) := by decide +kernel
theorem dX1_held_9 : decode cX1_held 9 = .ok (.ireturn, 1) := by decide +kernel
set_option maxRecDepth 20000 in
theorem ggX1_request_X1_isSubject : GoodIn wsX1_request wsX1_isSubject := goodIn_r _ [6, 7, 8, 5, 9] (by decide +kernel) (by decide +kernel)
set_option maxRecDepth 20000 in
theorem gX1_request_X1_isSubject : GoodIn wsX1_request (va_wsS RX1 66 yX1_isSubject wsX1_isSubject) := goodIn_app (goodIn_of _ (by decide +kernel)) ggX1_request_X1_isSubject
set_option maxRecDepth 20000 in
theorem ggX1_request_X1_fails : GoodIn wsX1_request wsX1_fails := goodIn_r _ [13, 1, 36, 37, 38, 39, 40, 41, 42, 43, 44, 45, 46, 47, 48, 49, 50] (by decide +kernel) (by decide +kernel)
set_option maxRecDepth 20000 in
theorem gX1_request_X1_fails : GoodIn wsX1_request (wsV RX1 58 RX1 yX1_fails wsX1_fails) := goodIn_app (goodIn_of _ (by decide +kernel)) ggX1_request_X1_fails
set_option maxRecDepth 20000 in
theorem ggX1_request_X1_subjects : GoodIn wsX1_request wsX1_subjects := goodIn_r _ [17, 18, 19, 20, 21, 22, 5, 23, 24, 25, 26, 36, 37, 38, 39, 40, 41, 42, 43, 44, 45, 46, 47, 48, 49, 50] (by decide +kernel) (by decide +kernel)
set_option maxRecDepth 20000 in
theorem gX1_request_X1_subjects : GoodIn wsX1_request (wsV RX1 79 RX1 yX1_subjects wsX1_subjects) := goodIn_app (goodIn_of _ (by decide +kernel)) ggX1_request_X1_subjects
set_option maxRecDepth 20000 in
theorem ggX1_request_X1_has : GoodIn wsX1_request wsX1_has := goodIn_r _ [26] (by decide +kernel) (by decide +kernel)
set_option maxRecDepth 20000 in
theorem gX1_request_X1_has : GoodIn wsX1_request (va_wsS RX1 69 yX1_has wsX1_has) := goodIn_app (goodIn_of _ (by decide +kernel)) ggX1_request_X1_has
set_option maxRecDepth 20000 in
theorem ggX1_request_X1_asks : GoodIn wsX1_request wsX1_asks := goodIn_r _ [30, 31, 2, 32, 33, 34, 5, 35, 18, 24, 25, 26, 36, 37, 38, 39, 40, 41, 42, 43, 44, 45, 46, 47, 48, 49, 50] (by decide +kernel) (by decide +kernel)
set_option maxRecDepth 20000 in
theorem gX1_request_X1_asks : GoodIn wsX1_request (wsV RX1 115 RX1 yX1_asks wsX1_asks) := goodIn_app (goodIn_of _ (by decide +kernel)) ggX1_request_X1_asks
theorem dX1_request_0 : decode cX1_request 0 = .ok (.aload_n 0, 1) := by decide +kernel
theorem dX1_request_1 : decode cX1_request 1 = .ok (.iconst 0, 1) := by decide +kernel
theorem dX1_request_2 : decode cX1_request 2 = .ok (.putfield 44, 3) := by decide +kernel
theorem dX1_request_5 : decode cX1_request 5 = .ok (.iload_n 1, 1) := by decide +kernel
theorem dX1_request_6 : decode cX1_request 6 = .ok (.invokestatic 66, 3) := by decide +kernel
theorem dX1_request_9 : decode cX1_request 9 = .ok (.ifCond .ne 9, 3) := by decide +kernel
theorem dX1_request_12 : decode cX1_request 12 = .ok (.aload_n 0, 1) := by decide +kernel
theorem dX1_request_13 : decode cX1_request 13 = .ok (.iconst 1, 1) := by decide +kernel
theorem dX1_request_14 : decode cX1_request 14 = .ok (.invokevirtual 58, 3) := by decide +kernel
theorem dX1_request_17 : decode cX1_request 17 = .ok (.ireturn, 1) := by decide +kernel
theorem dX1_request_18 : decode cX1_request 18 = .ok (.iconst 0, 1) := by decide +kernel
theorem dX1_request_19 : decode cX1_request 19 = .ok (.istore_n 2, 1) := by decide +kernel
theorem dX1_request_20 : decode cX1_request 20 = .ok (.iconst 0, 1) := by decide +kernel
theorem dX1_request_21 : decode cX1_request 21 = .ok (.istore_n 3, 1) := by decide +kernel
theorem dX1_request_22 : decode cX1_request 22 = .ok (.iload_n 3, 1) := by decide +kernel
theorem dX1_request_23 : decode cX1_request 23 = .ok (.aload_n 0, 1) := by decide +kernel
theorem dX1_request_24 : decode cX1_request 24 = .ok (.getfield 55, 3) := by decide +kernel
theorem dX1_request_27 : decode cX1_request 27 = .ok (.if_icmp .ge 33, 3) := by decide +kernel
theorem dX1_request_30 : decode cX1_request 30 = .ok (.iload_n 2, 1) := by decide +kernel
theorem dX1_request_31 : decode cX1_request 31 = .ok (.aload_n 0, 1) := by decide +kernel
theorem dX1_request_32 : decode cX1_request 32 = .ok (.iload_n 3, 1) := by decide +kernel
theorem dX1_request_33 : decode cX1_request 33 = .ok (.invokevirtual 79, 3) := by decide +kernel
theorem dX1_request_36 : decode cX1_request 36 = .ok (.iload_n 1, 1) := by decide +kernel
theorem dX1_request_37 : decode cX1_request 37 = .ok (.invokestatic 69, 3) := by decide +kernel
theorem dX1_request_40 : decode cX1_request 40 = .ok (.ifCond .eq 11, 3) := by decide +kernel
theorem dX1_request_43 : decode cX1_request 43 = .ok (.aload_n 0, 1) := by decide +kernel
theorem dX1_request_44 : decode cX1_request 44 = .ok (.iload_n 3, 1) := by decide +kernel
theorem dX1_request_45 : decode cX1_request 45 = .ok (.invokevirtual 115, 3) := by decide +kernel
theorem dX1_request_48 : decode cX1_request 48 = .ok (.goto 4, 3) := by decide +kernel
theorem dX1_request_51 : decode cX1_request 51 = .ok (.iconst 0, 1) := by decide +kernel
theorem dX1_request_52 : decode cX1_request 52 = .ok (.iadd, 1) := by decide +kernel
theorem dX1_request_53 : decode cX1_request 53 = .ok (.istore_n 2, 1) := by decide +kernel
theorem dX1_request_54 : decode cX1_request 54 = .ok (.iinc 3 1, 3) := by decide +kernel
theorem dX1_request_57 : decode cX1_request 57 = .ok (.goto (-35), 3) := by decide +kernel
theorem dX1_request_60 : decode cX1_request 60 = .ok (.iload_n 2, 1) := by decide +kernel
theorem dX1_request_61 : decode cX1_request 61 = .ok (.ireturn, 1) := by decide +kernel
set_option maxRecDepth 20000 in
theorem ggX1_kept_X1_heldSet : GoodIn wsX1_kept wsX1_heldSet := goodIn_r _ [7, 8, 17, 18, 19, 20, 21, 22, 23, 24, 25, 26, 27, 28, 29, 30, 31] (by decide +kernel) (by decide +kernel)
set_option maxRecDepth 20000 in
theorem gX1_kept_X1_heldSet : GoodIn wsX1_kept (wsV RX1 118 RX1 yX1_heldSet wsX1_heldSet) := goodIn_app (goodIn_of _ (by decide +kernel)) ggX1_kept_X1_heldSet
set_option maxRecDepth 20000 in
theorem ggX1_kept_X1_has : GoodIn wsX1_kept wsX1_has := goodIn_r _ [11] (by decide +kernel) (by decide +kernel)
set_option maxRecDepth 20000 in
theorem gX1_kept_X1_has : GoodIn wsX1_kept (va_wsS RX1 69 yX1_has wsX1_has) := goodIn_app (goodIn_of _ (by decide +kernel)) ggX1_kept_X1_has
set_option maxRecDepth 20000 in
theorem ggX1_kept_X1_belowOf : GoodIn wsX1_kept wsX1_belowOf := goodIn_r _ [15, 2, 16, 9, 10, 6, 11, 17, 18, 19, 20, 21, 22, 23, 24, 25, 26, 27, 28, 29, 30, 31] (by decide +kernel) (by decide +kernel)
set_option maxRecDepth 20000 in
theorem gX1_kept_X1_belowOf : GoodIn wsX1_kept (wsV RX1 101 RX1 yX1_belowOf wsX1_belowOf) := goodIn_app (goodIn_of _ (by decide +kernel)) ggX1_kept_X1_belowOf
theorem dX1_kept_0 : decode cX1_kept 0 = .ok (.aload_n 0, 1) := by decide +kernel
theorem dX1_kept_1 : decode cX1_kept 1 = .ok (.getfield 35, 3) := by decide +kernel
theorem dX1_kept_4 : decode cX1_kept 4 = .ok (.iload_n 1, 1) := by decide +kernel
theorem dX1_kept_5 : decode cX1_kept 5 = .ok (.iaload, 1) := by decide +kernel
theorem dX1_kept_6 : decode cX1_kept 6 = .ok (.iconst 1, 1) := by decide +kernel
theorem dX1_kept_7 : decode cX1_kept 7 = .ok (.if_icmp .eq 19, 3) := by decide +kernel
theorem dX1_kept_10 : decode cX1_kept 10 = .ok (.aload_n 0, 1) := by decide +kernel
theorem dX1_kept_11 : decode cX1_kept 11 = .ok (.getfield 35, 3) := by decide +kernel
theorem dX1_kept_14 : decode cX1_kept 14 = .ok (.iload_n 1, 1) := by decide +kernel
theorem dX1_kept_15 : decode cX1_kept 15 = .ok (.iaload, 1) := by decide +kernel
theorem dX1_kept_16 : decode cX1_kept 16 = .ok (.iconst 2, 1) := by decide +kernel
theorem dX1_kept_17 : decode cX1_kept 17 = .ok (.if_icmp .ne 7, 3) := by decide +kernel
theorem dX1_kept_20 : decode cX1_kept 20 = .ok (.iconst 1, 1) := by decide +kernel
theorem dX1_kept_21 : decode cX1_kept 21 = .ok (.goto 4, 3) := by decide +kernel
theorem dX1_kept_24 : decode cX1_kept 24 = .ok (.iconst 2, 1) := by decide +kernel
theorem dX1_kept_25 : decode cX1_kept 25 = .ok (.ireturn, 1) := by decide +kernel
theorem dX1_kept_26 : decode cX1_kept 26 = .ok (.aload_n 0, 1) := by decide +kernel
theorem dX1_kept_27 : decode cX1_kept 27 = .ok (.invokevirtual 118, 3) := by decide +kernel
theorem dX1_kept_30 : decode cX1_kept 30 = .ok (.iload_n 1, 1) := by decide +kernel
theorem dX1_kept_31 : decode cX1_kept 31 = .ok (.invokestatic 69, 3) := by decide +kernel
theorem dX1_kept_34 : decode cX1_kept 34 = .ok (.ifCond .eq 5, 3) := by decide +kernel
theorem dX1_kept_37 : decode cX1_kept 37 = .ok (.iconst 3, 1) := by decide +kernel
theorem dX1_kept_38 : decode cX1_kept 38 = .ok (.ireturn, 1) := by decide +kernel
theorem dX1_kept_39 : decode cX1_kept 39 = .ok (.aload_n 0, 1) := by decide +kernel
theorem dX1_kept_40 : decode cX1_kept 40 = .ok (.iload_n 1, 1) := by decide +kernel
theorem dX1_kept_41 : decode cX1_kept 41 = .ok (.invokevirtual 101, 3) := by decide +kernel
theorem dX1_kept_44 : decode cX1_kept 44 = .ok (.istore_n 2, 1) := by decide +kernel
theorem dX1_kept_45 : decode cX1_kept 45 = .ok (.iconst 0, 1) := by decide +kernel
theorem dX1_kept_46 : decode cX1_kept 46 = .ok (.istore_n 3, 1) := by decide +kernel
theorem dX1_kept_47 : decode cX1_kept 47 = .ok (.iload_n 1, 1) := by decide +kernel
theorem dX1_kept_48 : decode cX1_kept 48 = .ok (.iconst 1, 1) := by decide +kernel
theorem dX1_kept_49 : decode cX1_kept 49 = .ok (.iadd, 1) := by decide +kernel
theorem dX1_kept_50 : decode cX1_kept 50 = .ok (.istore 4, 2) := by decide +kernel
theorem dX1_kept_52 : decode cX1_kept 52 = .ok (.iload 4, 2) := by decide +kernel
theorem dX1_kept_54 : decode cX1_kept 54 = .ok (.aload_n 0, 1) := by decide +kernel
theorem dX1_kept_55 : decode cX1_kept 55 = .ok (.getfield 55, 3) := by decide +kernel
theorem dX1_kept_58 : decode cX1_kept 58 = .ok (.if_icmp .ge 35, 3) := by decide +kernel
theorem dX1_kept_61 : decode cX1_kept 61 = .ok (.iload_n 2, 1) := by decide +kernel
theorem dX1_kept_62 : decode cX1_kept 62 = .ok (.iload 4, 2) := by decide +kernel
theorem dX1_kept_64 : decode cX1_kept 64 = .ok (.invokestatic 69, 3) := by decide +kernel
theorem dX1_kept_67 : decode cX1_kept 67 = .ok (.ifCond .eq 18, 3) := by decide +kernel
theorem dX1_kept_70 : decode cX1_kept 70 = .ok (.aload_n 0, 1) := by decide +kernel
theorem dX1_kept_71 : decode cX1_kept 71 = .ok (.getfield 35, 3) := by decide +kernel
theorem dX1_kept_74 : decode cX1_kept 74 = .ok (.iload 4, 2) := by decide +kernel
theorem dX1_kept_76 : decode cX1_kept 76 = .ok (.iaload, 1) := by decide +kernel
theorem dX1_kept_77 : decode cX1_kept 77 = .ok (.iconst 2, 1) := by decide +kernel
theorem dX1_kept_78 : decode cX1_kept 78 = .ok (.if_icmp .eq 7, 3) := by decide +kernel
theorem dX1_kept_81 : decode cX1_kept 81 = .ok (.iconst 4, 1) := by decide +kernel
theorem dX1_kept_82 : decode cX1_kept 82 = .ok (.goto 4, 3) := by decide +kernel
theorem dX1_kept_85 : decode cX1_kept 85 = .ok (.iload_n 3, 1) := by decide +kernel
theorem dX1_kept_86 : decode cX1_kept 86 = .ok (.istore_n 3, 1) := by decide +kernel
theorem dX1_kept_87 : decode cX1_kept 87 = .ok (.iinc 4 1, 3) := by decide +kernel
theorem dX1_kept_90 : decode cX1_kept 90 = .ok (.goto (-38), 3) := by decide +kernel
theorem dX1_kept_93 : decode cX1_kept 93 = .ok (.iload_n 3, 1) := by decide +kernel
theorem dX1_kept_94 : decode cX1_kept 94 = .ok (.ireturn, 1) := by decide +kernel
set_option maxRecDepth 20000 in
theorem ggX1_whyKept_X1_isRecord : GoodIn wsX1_whyKept wsX1_isRecord := goodIn_r _ [6, 7, 8, 9, 5, 10, 33, 34, 35, 36, 37, 38, 39, 40, 41, 42, 43, 44, 45, 46, 47] (by decide +kernel) (by decide +kernel)
set_option maxRecDepth 20000 in
theorem gX1_whyKept_X1_isRecord : GoodIn wsX1_whyKept (wsV RX1 95 RX1 yX1_isRecord wsX1_isRecord) := goodIn_app (goodIn_of _ (by decide +kernel)) ggX1_whyKept_X1_isRecord
set_option maxRecDepth 20000 in
theorem ggX1_whyKept_X1_kept : GoodIn wsX1_whyKept wsX1_kept := goodIn_r _ [14, 15, 7, 16, 17, 18, 5, 19, 20, 21, 22, 23, 24, 25, 26, 27, 28, 33, 34, 35, 36, 37, 38, 39, 40, 41, 42, 43, 44, 45, 46, 47] (by decide +kernel) (by decide +kernel)
set_option maxRecDepth 20000 in
theorem gX1_whyKept_X1_kept : GoodIn wsX1_whyKept (wsV RX1 121 RX1 yX1_kept wsX1_kept) := goodIn_app (goodIn_of _ (by decide +kernel)) ggX1_whyKept_X1_kept
set_option maxRecDepth 20000 in
theorem ggX1_whyKept_X1_fails : GoodIn wsX1_whyKept wsX1_fails := goodIn_r _ [32, 1, 33, 34, 35, 36, 37, 38, 39, 40, 41, 42, 43, 44, 45, 46, 47] (by decide +kernel) (by decide +kernel)
set_option maxRecDepth 20000 in
theorem gX1_whyKept_X1_fails : GoodIn wsX1_whyKept (wsV RX1 58 RX1 yX1_fails wsX1_fails) := goodIn_app (goodIn_of _ (by decide +kernel)) ggX1_whyKept_X1_fails
theorem dX1_whyKept_0 : decode cX1_whyKept 0 = .ok (.aload_n 0, 1) := by decide +kernel
theorem dX1_whyKept_1 : decode cX1_whyKept 1 = .ok (.iconst 0, 1) := by decide +kernel
theorem dX1_whyKept_2 : decode cX1_whyKept 2 = .ok (.putfield 44, 3) := by decide +kernel
theorem dX1_whyKept_5 : decode cX1_whyKept 5 = .ok (.aload_n 0, 1) := by decide +kernel
theorem dX1_whyKept_6 : decode cX1_whyKept 6 = .ok (.iload_n 1, 1) := by decide +kernel
theorem dX1_whyKept_7 : decode cX1_whyKept 7 = .ok (.invokevirtual 95, 3) := by decide +kernel
theorem dX1_whyKept_10 : decode cX1_whyKept 10 = .ok (.ifCond .eq 11, 3) := by decide +kernel
theorem dX1_whyKept_13 : decode cX1_whyKept 13 = .ok (.aload_n 0, 1) := by decide +kernel
theorem dX1_whyKept_14 : decode cX1_whyKept 14 = .ok (.iload_n 1, 1) := by decide +kernel
theorem dX1_whyKept_15 : decode cX1_whyKept 15 = .ok (.invokevirtual 121, 3) := by decide +kernel
theorem dX1_whyKept_18 : decode cX1_whyKept 18 = .ok (.goto 8, 3) := by decide +kernel
theorem dX1_whyKept_21 : decode cX1_whyKept 21 = .ok (.aload_n 0, 1) := by decide +kernel
theorem dX1_whyKept_22 : decode cX1_whyKept 22 = .ok (.iconst 1, 1) := by decide +kernel
theorem dX1_whyKept_23 : decode cX1_whyKept 23 = .ok (.invokevirtual 58, 3) := by decide +kernel
theorem dX1_whyKept_26 : decode cX1_whyKept 26 = .ok (.ireturn, 1) := by decide +kernel
set_option maxRecDepth 20000 in
theorem ggX1_eraseOne_X1_kept : GoodIn wsX1_eraseOne wsX1_kept := goodIn_r _ [7, 2, 1, 8, 9, 10, 6, 11, 12, 13, 14, 15, 16, 17, 18, 19, 20, 21, 22, 23, 24, 25, 26, 27, 28, 29, 30, 31, 32, 33, 34, 35] (by decide +kernel) (by decide +kernel)
end
section
set_option maxRecDepth 20000 in
theorem gX1_eraseOne_X1_kept : GoodIn wsX1_eraseOne (wsV RX1 121 RX1 yX1_kept wsX1_kept) := goodIn_app (goodIn_of _ (by decide +kernel)) ggX1_eraseOne_X1_kept
theorem dX1_eraseOne_0 : decode cX1_eraseOne 0 = .ok (.iconst (-1), 1) := by decide +kernel
theorem dX1_eraseOne_1 : decode cX1_eraseOne 1 = .ok (.istore_n 1, 1) := by decide +kernel
theorem dX1_eraseOne_2 : decode cX1_eraseOne 2 = .ok (.iconst 0, 1) := by decide +kernel
theorem dX1_eraseOne_3 : decode cX1_eraseOne 3 = .ok (.istore_n 2, 1) := by decide +kernel
theorem dX1_eraseOne_4 : decode cX1_eraseOne 4 = .ok (.iload_n 2, 1) := by decide +kernel
theorem dX1_eraseOne_5 : decode cX1_eraseOne 5 = .ok (.aload_n 0, 1) := by decide +kernel
theorem dX1_eraseOne_6 : decode cX1_eraseOne 6 = .ok (.getfield 55, 3) := by decide +kernel
theorem dX1_eraseOne_9 : decode cX1_eraseOne 9 = .ok (.if_icmp .ge 23, 3) := by decide +kernel
theorem dX1_eraseOne_12 : decode cX1_eraseOne 12 = .ok (.aload_n 0, 1) := by decide +kernel
theorem dX1_eraseOne_13 : decode cX1_eraseOne 13 = .ok (.iload_n 2, 1) := by decide +kernel
theorem dX1_eraseOne_14 : decode cX1_eraseOne 14 = .ok (.invokevirtual 121, 3) := by decide +kernel
theorem dX1_eraseOne_17 : decode cX1_eraseOne 17 = .ok (.ifCond .ne 7, 3) := by decide +kernel
theorem dX1_eraseOne_20 : decode cX1_eraseOne 20 = .ok (.iload_n 2, 1) := by decide +kernel
theorem dX1_eraseOne_21 : decode cX1_eraseOne 21 = .ok (.goto 4, 3) := by decide +kernel
theorem dX1_eraseOne_24 : decode cX1_eraseOne 24 = .ok (.iload_n 1, 1) := by decide +kernel
theorem dX1_eraseOne_25 : decode cX1_eraseOne 25 = .ok (.istore_n 1, 1) := by decide +kernel
theorem dX1_eraseOne_26 : decode cX1_eraseOne 26 = .ok (.iinc 2 1, 3) := by decide +kernel
theorem dX1_eraseOne_29 : decode cX1_eraseOne 29 = .ok (.goto (-25), 3) := by decide +kernel
theorem dX1_eraseOne_32 : decode cX1_eraseOne 32 = .ok (.iload_n 1, 1) := by decide +kernel
theorem dX1_eraseOne_33 : decode cX1_eraseOne 33 = .ok (.iconst (-1), 1) := by decide +kernel
theorem dX1_eraseOne_34 : decode cX1_eraseOne 34 = .ok (.if_icmp .eq 10, 3) := by decide +kernel
theorem dX1_eraseOne_37 : decode cX1_eraseOne 37 = .ok (.aload_n 0, 1) := by decide +kernel
theorem dX1_eraseOne_38 : decode cX1_eraseOne 38 = .ok (.getfield 35, 3) := by decide +kernel
theorem dX1_eraseOne_41 : decode cX1_eraseOne 41 = .ok (.iload_n 1, 1) := by decide +kernel
theorem dX1_eraseOne_42 : decode cX1_eraseOne 42 = .ok (.iconst 2, 1) := by decide +kernel
theorem dX1_eraseOne_43 : decode cX1_eraseOne 43 = .ok (.iastore, 1) := by decide +kernel
theorem dX1_eraseOne_44 : decode cX1_eraseOne 44 = .ok (.iload_n 1, 1) := by decide +kernel
theorem dX1_eraseOne_45 : decode cX1_eraseOne 45 = .ok (.ireturn, 1) := by decide +kernel
set_option maxRecDepth 20000 in
theorem ggX1_erase_X1_eraseOne : GoodIn wsX1_erase wsX1_eraseOne := goodIn_r _ [6, 7, 8, 9, 10, 11, 5, 12, 13, 14, 15, 16, 17, 18, 19, 20, 21, 22, 23, 24, 25, 26, 27, 28, 29, 30, 31, 32, 33, 34, 35, 36, 37, 38, 39, 40] (by decide +kernel) (by decide +kernel)
set_option maxRecDepth 20000 in
theorem gX1_erase_X1_eraseOne : GoodIn wsX1_erase (wsV RX1 124 RX1 yX1_eraseOne wsX1_eraseOne) := goodIn_app (goodIn_of _ (by decide +kernel)) ggX1_erase_X1_eraseOne
theorem dX1_erase_0 : decode cX1_erase 0 = .ok (.aload_n 0, 1) := by decide +kernel
theorem dX1_erase_1 : decode cX1_erase 1 = .ok (.iconst 0, 1) := by decide +kernel
theorem dX1_erase_2 : decode cX1_erase 2 = .ok (.putfield 44, 3) := by decide +kernel
theorem dX1_erase_5 : decode cX1_erase 5 = .ok (.aload_n 0, 1) := by decide +kernel
theorem dX1_erase_6 : decode cX1_erase 6 = .ok (.invokevirtual 124, 3) := by decide +kernel
theorem dX1_erase_9 : decode cX1_erase 9 = .ok (.ireturn, 1) := by decide +kernel
set_option maxRecDepth 20000 in
theorem ggX1_eraseAll_X1_eraseOne : GoodIn wsX1_eraseAll wsX1_eraseOne := goodIn_r _ [6, 7, 8, 9, 10, 11, 5, 12, 13, 14, 15, 16, 17, 18, 19, 20, 21, 22, 23, 24, 25, 26, 27, 28, 29, 30, 31, 32, 33, 34, 35, 36, 37, 38, 39, 40] (by decide +kernel) (by decide +kernel)
set_option maxRecDepth 20000 in
theorem gX1_eraseAll_X1_eraseOne : GoodIn wsX1_eraseAll (wsV RX1 124 RX1 yX1_eraseOne wsX1_eraseOne) := goodIn_app (goodIn_of _ (by decide +kernel)) ggX1_eraseAll_X1_eraseOne
theorem dX1_eraseAll_0 : decode cX1_eraseAll 0 = .ok (.aload_n 0, 1) := by decide +kernel
theorem dX1_eraseAll_1 : decode cX1_eraseAll 1 = .ok (.iconst 0, 1) := by decide +kernel
theorem dX1_eraseAll_2 : decode cX1_eraseAll 2 = .ok (.putfield 44, 3) := by decide +kernel
theorem dX1_eraseAll_5 : decode cX1_eraseAll 5 = .ok (.iconst 0, 1) := by decide +kernel
theorem dX1_eraseAll_6 : decode cX1_eraseAll 6 = .ok (.istore_n 1, 1) := by decide +kernel
theorem dX1_eraseAll_7 : decode cX1_eraseAll 7 = .ok (.aload_n 0, 1) := by decide +kernel
theorem dX1_eraseAll_8 : decode cX1_eraseAll 8 = .ok (.invokevirtual 124, 3) := by decide +kernel
theorem dX1_eraseAll_11 : decode cX1_eraseAll 11 = .ok (.iconst (-1), 1) := by decide +kernel
theorem dX1_eraseAll_12 : decode cX1_eraseAll 12 = .ok (.if_icmp .eq 9, 3) := by decide +kernel
theorem dX1_eraseAll_15 : decode cX1_eraseAll 15 = .ok (.iinc 1 1, 3) := by decide +kernel
theorem dX1_eraseAll_18 : decode cX1_eraseAll 18 = .ok (.goto (-11), 3) := by decide +kernel
theorem dX1_eraseAll_21 : decode cX1_eraseAll 21 = .ok (.iload_n 1, 1) := by decide +kernel
theorem dX1_eraseAll_22 : decode cX1_eraseAll 22 = .ok (.ireturn, 1) := by decide +kernel
set_option maxRecDepth 20000 in
theorem ggX1_tracesOf_X1_subjects : GoodIn wsX1_tracesOf wsX1_subjects := goodIn_r _ [7, 8, 9, 10, 11, 12, 6, 13, 14, 15, 16, 17, 18, 19, 20, 21, 22, 23, 24, 25, 26, 27, 28, 29, 30, 31] (by decide +kernel) (by decide +kernel)
set_option maxRecDepth 20000 in
theorem gX1_tracesOf_X1_subjects : GoodIn wsX1_tracesOf (wsV RX1 79 RX1 yX1_subjects wsX1_subjects) := goodIn_app (goodIn_of _ (by decide +kernel)) ggX1_tracesOf_X1_subjects
set_option maxRecDepth 20000 in
theorem ggX1_tracesOf_X1_has : GoodIn wsX1_tracesOf wsX1_has := goodIn_r _ [16] (by decide +kernel) (by decide +kernel)
set_option maxRecDepth 20000 in
theorem gX1_tracesOf_X1_has : GoodIn wsX1_tracesOf (va_wsS RX1 69 yX1_has wsX1_has) := goodIn_app (goodIn_of _ (by decide +kernel)) ggX1_tracesOf_X1_has
theorem dX1_tracesOf_0 : decode cX1_tracesOf 0 = .ok (.iconst 0, 1) := by decide +kernel
theorem dX1_tracesOf_1 : decode cX1_tracesOf 1 = .ok (.istore_n 2, 1) := by decide +kernel
theorem dX1_tracesOf_2 : decode cX1_tracesOf 2 = .ok (.iconst 0, 1) := by decide +kernel
theorem dX1_tracesOf_3 : decode cX1_tracesOf 3 = .ok (.istore_n 3, 1) := by decide +kernel
theorem dX1_tracesOf_4 : decode cX1_tracesOf 4 = .ok (.iload_n 3, 1) := by decide +kernel
theorem dX1_tracesOf_5 : decode cX1_tracesOf 5 = .ok (.aload_n 0, 1) := by decide +kernel
theorem dX1_tracesOf_6 : decode cX1_tracesOf 6 = .ok (.getfield 55, 3) := by decide +kernel
theorem dX1_tracesOf_9 : decode cX1_tracesOf 9 = .ok (.if_icmp .ge 41, 3) := by decide +kernel
theorem dX1_tracesOf_12 : decode cX1_tracesOf 12 = .ok (.iload_n 2, 1) := by decide +kernel
theorem dX1_tracesOf_13 : decode cX1_tracesOf 13 = .ok (.aload_n 0, 1) := by decide +kernel
theorem dX1_tracesOf_14 : decode cX1_tracesOf 14 = .ok (.getfield 35, 3) := by decide +kernel
theorem dX1_tracesOf_17 : decode cX1_tracesOf 17 = .ok (.iload_n 3, 1) := by decide +kernel
theorem dX1_tracesOf_18 : decode cX1_tracesOf 18 = .ok (.iaload, 1) := by decide +kernel
theorem dX1_tracesOf_19 : decode cX1_tracesOf 19 = .ok (.iconst 2, 1) := by decide +kernel
theorem dX1_tracesOf_20 : decode cX1_tracesOf 20 = .ok (.if_icmp .eq 21, 3) := by decide +kernel
theorem dX1_tracesOf_23 : decode cX1_tracesOf 23 = .ok (.aload_n 0, 1) := by decide +kernel
theorem dX1_tracesOf_24 : decode cX1_tracesOf 24 = .ok (.iload_n 3, 1) := by decide +kernel
theorem dX1_tracesOf_25 : decode cX1_tracesOf 25 = .ok (.invokevirtual 79, 3) := by decide +kernel
theorem dX1_tracesOf_28 : decode cX1_tracesOf 28 = .ok (.iload_n 1, 1) := by decide +kernel
theorem dX1_tracesOf_29 : decode cX1_tracesOf 29 = .ok (.invokestatic 69, 3) := by decide +kernel
theorem dX1_tracesOf_32 : decode cX1_tracesOf 32 = .ok (.ifCond .eq 9, 3) := by decide +kernel
theorem dX1_tracesOf_35 : decode cX1_tracesOf 35 = .ok (.iconst 1, 1) := by decide +kernel
theorem dX1_tracesOf_36 : decode cX1_tracesOf 36 = .ok (.iload_n 3, 1) := by decide +kernel
theorem dX1_tracesOf_37 : decode cX1_tracesOf 37 = .ok (.ishl, 1) := by decide +kernel
theorem dX1_tracesOf_38 : decode cX1_tracesOf 38 = .ok (.goto 4, 3) := by decide +kernel
theorem dX1_tracesOf_41 : decode cX1_tracesOf 41 = .ok (.iconst 0, 1) := by decide +kernel
theorem dX1_tracesOf_42 : decode cX1_tracesOf 42 = .ok (.ior, 1) := by decide +kernel
theorem dX1_tracesOf_43 : decode cX1_tracesOf 43 = .ok (.istore_n 2, 1) := by decide +kernel
theorem dX1_tracesOf_44 : decode cX1_tracesOf 44 = .ok (.iinc 3 1, 3) := by decide +kernel
theorem dX1_tracesOf_47 : decode cX1_tracesOf 47 = .ok (.goto (-43), 3) := by decide +kernel
theorem dX1_tracesOf_50 : decode cX1_tracesOf 50 = .ok (.iload_n 2, 1) := by decide +kernel
theorem dX1_tracesOf_51 : decode cX1_tracesOf 51 = .ok (.ireturn, 1) := by decide +kernel
set_option maxRecDepth 20000 in
theorem ggX1_traces_X1_isSubject : GoodIn wsX1_traces wsX1_isSubject := goodIn_r _ [5, 6, 7, 4, 8] (by decide +kernel) (by decide +kernel)
set_option maxRecDepth 20000 in
theorem gX1_traces_X1_isSubject : GoodIn wsX1_traces (va_wsS RX1 66 yX1_isSubject wsX1_isSubject) := goodIn_app (goodIn_of _ (by decide +kernel)) ggX1_traces_X1_isSubject
set_option maxRecDepth 20000 in
theorem ggX1_traces_X1_tracesOf : GoodIn wsX1_traces wsX1_tracesOf := goodIn_r _ [12, 13, 14, 15, 16, 17, 4, 18, 19, 20, 21, 22, 23, 24, 25, 26, 27, 32, 33, 34, 35, 36, 37, 38, 39, 40, 41, 42, 43, 44, 45, 46] (by decide +kernel) (by decide +kernel)
set_option maxRecDepth 20000 in
theorem gX1_traces_X1_tracesOf : GoodIn wsX1_traces (wsV RX1 127 RX1 yX1_tracesOf wsX1_tracesOf) := goodIn_app (goodIn_of _ (by decide +kernel)) ggX1_traces_X1_tracesOf
set_option maxRecDepth 20000 in
theorem ggX1_traces_X1_fails : GoodIn wsX1_traces wsX1_fails := goodIn_r _ [31, 1, 32, 33, 34, 35, 36, 37, 38, 39, 40, 41, 42, 43, 44, 45, 46] (by decide +kernel) (by decide +kernel)
set_option maxRecDepth 20000 in
theorem gX1_traces_X1_fails : GoodIn wsX1_traces (wsV RX1 58 RX1 yX1_fails wsX1_fails) := goodIn_app (goodIn_of _ (by decide +kernel)) ggX1_traces_X1_fails
theorem dX1_traces_0 : decode cX1_traces 0 = .ok (.aload_n 0, 1) := by decide +kernel
theorem dX1_traces_1 : decode cX1_traces 1 = .ok (.iconst 0, 1) := by decide +kernel
theorem dX1_traces_2 : decode cX1_traces 2 = .ok (.putfield 44, 3) := by decide +kernel
theorem dX1_traces_5 : decode cX1_traces 5 = .ok (.iload_n 1, 1) := by decide +kernel
theorem dX1_traces_6 : decode cX1_traces 6 = .ok (.invokestatic 66, 3) := by decide +kernel
theorem dX1_traces_9 : decode cX1_traces 9 = .ok (.ifCond .eq 11, 3) := by decide +kernel
theorem dX1_traces_12 : decode cX1_traces 12 = .ok (.aload_n 0, 1) := by decide +kernel
theorem dX1_traces_13 : decode cX1_traces 13 = .ok (.iload_n 1, 1) := by decide +kernel
theorem dX1_traces_14 : decode cX1_traces 14 = .ok (.invokevirtual 127, 3) := by decide +kernel
theorem dX1_traces_17 : decode cX1_traces 17 = .ok (.goto 8, 3) := by decide +kernel
theorem dX1_traces_20 : decode cX1_traces 20 = .ok (.aload_n 0, 1) := by decide +kernel
theorem dX1_traces_21 : decode cX1_traces 21 = .ok (.iconst 1, 1) := by decide +kernel
theorem dX1_traces_22 : decode cX1_traces 22 = .ok (.invokevirtual 58, 3) := by decide +kernel
theorem dX1_traces_25 : decode cX1_traces 25 = .ok (.ireturn, 1) := by decide +kernel
set_option maxRecDepth 20000 in
theorem ggX1_tracesFromRoots_X1_isSubject : GoodIn wsX1_tracesFromRoots wsX1_isSubject := goodIn_r _ [5, 6, 7, 4, 8] (by decide +kernel) (by decide +kernel)
set_option maxRecDepth 20000 in
theorem gX1_tracesFromRoots_X1_isSubject : GoodIn wsX1_tracesFromRoots (va_wsS RX1 66 yX1_isSubject wsX1_isSubject) := goodIn_app (goodIn_of _ (by decide +kernel)) ggX1_tracesFromRoots_X1_isSubject
set_option maxRecDepth 20000 in
theorem ggX1_tracesFromRoots_X1_tracesOf : GoodIn wsX1_tracesFromRoots wsX1_tracesOf := goodIn_r _ [12, 13, 14, 15, 16, 17, 4, 18, 19, 20, 21, 22, 23, 24, 25, 26, 27, 32, 33, 34, 35, 36, 37, 38, 39, 40, 41, 42, 43, 44, 45, 46] (by decide +kernel) (by decide +kernel)
set_option maxRecDepth 20000 in
theorem gX1_tracesFromRoots_X1_tracesOf : GoodIn wsX1_tracesFromRoots (wsV RX1 127 RX1 yX1_tracesOf wsX1_tracesOf) := goodIn_app (goodIn_of _ (by decide +kernel)) ggX1_tracesFromRoots_X1_tracesOf
set_option maxRecDepth 20000 in
theorem ggX1_tracesFromRoots_X1_fails : GoodIn wsX1_tracesFromRoots wsX1_fails := goodIn_r _ [31, 1, 32, 33, 34, 35, 36, 37, 38, 39, 40, 41, 42, 43, 44, 45, 46] (by decide +kernel) (by decide +kernel)
set_option maxRecDepth 20000 in
theorem gX1_tracesFromRoots_X1_fails : GoodIn wsX1_tracesFromRoots (wsV RX1 58 RX1 yX1_fails wsX1_fails) := goodIn_app (goodIn_of _ (by decide +kernel)) ggX1_tracesFromRoots_X1_fails
theorem dX1_tracesFromRoots_0 : decode cX1_tracesFromRoots 0 = .ok (.aload_n 0, 1) := by decide +kernel
theorem dX1_tracesFromRoots_1 : decode cX1_tracesFromRoots 1 = .ok (.iconst 0, 1) := by decide +kernel
theorem dX1_tracesFromRoots_2 : decode cX1_tracesFromRoots 2 = .ok (.putfield 44, 3) := by decide +kernel
theorem dX1_tracesFromRoots_5 : decode cX1_tracesFromRoots 5 = .ok (.iload_n 1, 1) := by decide +kernel
theorem dX1_tracesFromRoots_6 : decode cX1_tracesFromRoots 6 = .ok (.invokestatic 66, 3) := by decide +kernel
theorem dX1_tracesFromRoots_9 : decode cX1_tracesFromRoots 9 = .ok (.ifCond .eq 11, 3) := by decide +kernel
theorem dX1_tracesFromRoots_12 : decode cX1_tracesFromRoots 12 = .ok (.aload_n 0, 1) := by decide +kernel
theorem dX1_tracesFromRoots_13 : decode cX1_tracesFromRoots 13 = .ok (.iload_n 1, 1) := by decide +kernel
theorem dX1_tracesFromRoots_14 : decode cX1_tracesFromRoots 14 = .ok (.invokevirtual 127, 3) := by decide +kernel
theorem dX1_tracesFromRoots_17 : decode cX1_tracesFromRoots 17 = .ok (.goto 8, 3) := by decide +kernel
theorem dX1_tracesFromRoots_20 : decode cX1_tracesFromRoots 20 = .ok (.aload_n 0, 1) := by decide +kernel
theorem dX1_tracesFromRoots_21 : decode cX1_tracesFromRoots 21 = .ok (.iconst 1, 1) := by decide +kernel
theorem dX1_tracesFromRoots_22 : decode cX1_tracesFromRoots 22 = .ok (.invokevirtual 58, 3) := by decide +kernel
theorem dX1_tracesFromRoots_25 : decode cX1_tracesFromRoots 25 = .ok (.ireturn, 1) := by decide +kernel
set_option maxRecDepth 20000 in
theorem ggX1_due_X1_dueSet : GoodIn wsX1_due wsX1_dueSet := goodIn_r _ [6, 7, 8, 9, 10, 11, 12, 5, 13, 14, 15, 16, 17, 18, 19, 20, 21, 22, 23, 24, 25, 26, 27, 28, 29, 30, 31, 32, 33, 34, 35, 36, 37, 38, 39, 40, 41, 42, 43, 44, 45, 46, 47, 48, 49, 50, 51, 52, 53, 54, 55] (by decide +kernel) (by decide +kernel)
set_option maxRecDepth 20000 in
theorem gX1_due_X1_dueSet : GoodIn wsX1_due (wsV RX1 111 RX1 yX1_dueSet wsX1_dueSet) := goodIn_app (goodIn_of _ (by decide +kernel)) ggX1_due_X1_dueSet
theorem dX1_due_0 : decode cX1_due 0 = .ok (.aload_n 0, 1) := by decide +kernel
theorem dX1_due_1 : decode cX1_due 1 = .ok (.iconst 0, 1) := by decide +kernel
theorem dX1_due_2 : decode cX1_due 2 = .ok (.putfield 44, 3) := by decide +kernel
theorem dX1_due_5 : decode cX1_due 5 = .ok (.aload_n 0, 1) := by decide +kernel
theorem dX1_due_6 : decode cX1_due 6 = .ok (.invokevirtual 111, 3) := by decide +kernel
theorem dX1_due_9 : decode cX1_due 9 = .ok (.ireturn, 1) := by decide +kernel
theorem dJ6_bitCount_0f7a4_0 : decode cJ6_bitCount_0f7a4 0 = .ok (.iload_n 0, 1) := by decide +kernel
theorem dJ6_bitCount_0f7a4_1 : decode cJ6_bitCount_0f7a4 1 = .ok (.iload_n 0, 1) := by decide +kernel
theorem dJ6_bitCount_0f7a4_2 : decode cJ6_bitCount_0f7a4 2 = .ok (.iconst 1, 1) := by decide +kernel
theorem dJ6_bitCount_0f7a4_3 : decode cJ6_bitCount_0f7a4 3 = .ok (.iushr, 1) := by decide +kernel
theorem dJ6_bitCount_0f7a4_4 : decode cJ6_bitCount_0f7a4 4 = .ok (.ldc_w 265, 3) := by decide +kernel
theorem dJ6_bitCount_0f7a4_7 : decode cJ6_bitCount_0f7a4 7 = .ok (.iand, 1) := by decide +kernel
theorem dJ6_bitCount_0f7a4_8 : decode cJ6_bitCount_0f7a4 8 = .ok (.isub, 1) := by decide +kernel
theorem dJ6_bitCount_0f7a4_9 : decode cJ6_bitCount_0f7a4 9 = .ok (.istore_n 0, 1) := by decide +kernel
theorem dJ6_bitCount_0f7a4_10 : decode cJ6_bitCount_0f7a4 10 = .ok (.iload_n 0, 1) := by decide +kernel
theorem dJ6_bitCount_0f7a4_11 : decode cJ6_bitCount_0f7a4 11 = .ok (.ldc_w 266, 3) := by decide +kernel
theorem dJ6_bitCount_0f7a4_14 : decode cJ6_bitCount_0f7a4 14 = .ok (.iand, 1) := by decide +kernel
theorem dJ6_bitCount_0f7a4_15 : decode cJ6_bitCount_0f7a4 15 = .ok (.iload_n 0, 1) := by decide +kernel
theorem dJ6_bitCount_0f7a4_16 : decode cJ6_bitCount_0f7a4 16 = .ok (.iconst 2, 1) := by decide +kernel
theorem dJ6_bitCount_0f7a4_17 : decode cJ6_bitCount_0f7a4 17 = .ok (.iushr, 1) := by decide +kernel
theorem dJ6_bitCount_0f7a4_18 : decode cJ6_bitCount_0f7a4 18 = .ok (.ldc_w 266, 3) := by decide +kernel
theorem dJ6_bitCount_0f7a4_21 : decode cJ6_bitCount_0f7a4 21 = .ok (.iand, 1) := by decide +kernel
theorem dJ6_bitCount_0f7a4_22 : decode cJ6_bitCount_0f7a4 22 = .ok (.iadd, 1) := by decide +kernel
theorem dJ6_bitCount_0f7a4_23 : decode cJ6_bitCount_0f7a4 23 = .ok (.istore_n 0, 1) := by decide +kernel
theorem dJ6_bitCount_0f7a4_24 : decode cJ6_bitCount_0f7a4 24 = .ok (.iload_n 0, 1) := by decide +kernel
theorem dJ6_bitCount_0f7a4_25 : decode cJ6_bitCount_0f7a4 25 = .ok (.iload_n 0, 1) := by decide +kernel
theorem dJ6_bitCount_0f7a4_26 : decode cJ6_bitCount_0f7a4 26 = .ok (.iconst 4, 1) := by decide +kernel
theorem dJ6_bitCount_0f7a4_27 : decode cJ6_bitCount_0f7a4 27 = .ok (.iushr, 1) := by decide +kernel
theorem dJ6_bitCount_0f7a4_28 : decode cJ6_bitCount_0f7a4 28 = .ok (.iadd, 1) := by decide +kernel
theorem dJ6_bitCount_0f7a4_29 : decode cJ6_bitCount_0f7a4 29 = .ok (.ldc_w 267, 3) := by decide +kernel
theorem dJ6_bitCount_0f7a4_32 : decode cJ6_bitCount_0f7a4 32 = .ok (.iand, 1) := by decide +kernel
theorem dJ6_bitCount_0f7a4_33 : decode cJ6_bitCount_0f7a4 33 = .ok (.istore_n 0, 1) := by decide +kernel
theorem dJ6_bitCount_0f7a4_34 : decode cJ6_bitCount_0f7a4 34 = .ok (.iload_n 0, 1) := by decide +kernel
theorem dJ6_bitCount_0f7a4_35 : decode cJ6_bitCount_0f7a4 35 = .ok (.iload_n 0, 1) := by decide +kernel
theorem dJ6_bitCount_0f7a4_36 : decode cJ6_bitCount_0f7a4 36 = .ok (.bipush 8, 2) := by decide +kernel
theorem dJ6_bitCount_0f7a4_38 : decode cJ6_bitCount_0f7a4 38 = .ok (.iushr, 1) := by decide +kernel
theorem dJ6_bitCount_0f7a4_39 : decode cJ6_bitCount_0f7a4 39 = .ok (.iadd, 1) := by decide +kernel
theorem dJ6_bitCount_0f7a4_40 : decode cJ6_bitCount_0f7a4 40 = .ok (.istore_n 0, 1) := by decide +kernel
theorem dJ6_bitCount_0f7a4_41 : decode cJ6_bitCount_0f7a4 41 = .ok (.iload_n 0, 1) := by decide +kernel
theorem dJ6_bitCount_0f7a4_42 : decode cJ6_bitCount_0f7a4 42 = .ok (.iload_n 0, 1) := by decide +kernel
theorem dJ6_bitCount_0f7a4_43 : decode cJ6_bitCount_0f7a4 43 = .ok (.bipush 16, 2) := by decide +kernel
theorem dJ6_bitCount_0f7a4_45 : decode cJ6_bitCount_0f7a4 45 = .ok (.iushr, 1) := by decide +kernel
theorem dJ6_bitCount_0f7a4_46 : decode cJ6_bitCount_0f7a4 46 = .ok (.iadd, 1) := by decide +kernel
theorem dJ6_bitCount_0f7a4_47 : decode cJ6_bitCount_0f7a4 47 = .ok (.istore_n 0, 1) := by decide +kernel
theorem dJ6_bitCount_0f7a4_48 : decode cJ6_bitCount_0f7a4 48 = .ok (.iload_n 0, 1) := by decide +kernel
theorem dJ6_bitCount_0f7a4_49 : decode cJ6_bitCount_0f7a4 49 = .ok (.bipush 63, 2) := by decide +kernel
theorem dJ6_bitCount_0f7a4_51 : decode cJ6_bitCount_0f7a4 51 = .ok (.iand, 1) := by decide +kernel
theorem dJ6_bitCount_0f7a4_52 : decode cJ6_bitCount_0f7a4 52 = .ok (.ireturn, 1) := by decide +kernel
theorem dJ9_max_7cf53_0 : decode cJ9_max_7cf53 0 = .ok (.iload_n 0, 1) := by decide +kernel
theorem dJ9_max_7cf53_1 : decode cJ9_max_7cf53 1 = .ok (.iload_n 1, 1) := by decide +kernel
theorem dJ9_max_7cf53_2 : decode cJ9_max_7cf53 2 = .ok (.if_icmp .lt 7, 3) := by decide +kernel
theorem dJ9_max_7cf53_5 : decode cJ9_max_7cf53 5 = .ok (.iload_n 0, 1) := by decide +kernel
theorem dJ9_max_7cf53_6 : decode cJ9_max_7cf53 6 = .ok (.goto 4, 3) := by decide +kernel
theorem dJ9_max_7cf53_9 : decode cJ9_max_7cf53 9 = .ok (.iload_n 1, 1) := by decide +kernel
theorem dJ9_max_7cf53_10 : decode cJ9_max_7cf53 10 = .ok (.ireturn, 1) := by decide +kernel
theorem dJ9_min_7cf53_0 : decode cJ9_min_7cf53 0 = .ok (.iload_n 0, 1) := by decide +kernel
theorem dJ9_min_7cf53_1 : decode cJ9_min_7cf53 1 = .ok (.iload_n 1, 1) := by decide +kernel
theorem dJ9_min_7cf53_2 : decode cJ9_min_7cf53 2 = .ok (.if_icmp .gt 7, 3) := by decide +kernel
theorem dJ9_min_7cf53_5 : decode cJ9_min_7cf53 5 = .ok (.iload_n 0, 1) := by decide +kernel
theorem dJ9_min_7cf53_6 : decode cJ9_min_7cf53 6 = .ok (.goto 4, 3) := by decide +kernel
theorem dJ9_min_7cf53_9 : decode cJ9_min_7cf53 9 = .ok (.iload_n 1, 1) := by decide +kernel
theorem dJ9_min_7cf53_10 : decode cJ9_min_7cf53 10 = .ok (.ireturn, 1) := by decide +kernel
end
section
abbrev vwCl : List vw_C := [(RX0, TX0, 16), (RX1, TX1, 15)]
section KB
variable {p : Program} {l : Launch} {e : Env} {R : Room} {s : State} {m : MethodId} {args : Array Value} {below : List Frame} {meth : Method} {c : Code} {H : Heap} {locs : List Loc} {cells slots : Nat} {Q : State → Prop} {cc : ByteArray} {pc : Nat} {ls : Array Slot} {rest : List Value} {Ts : List Cond}
/-- a state of an object of ints and int rows: the int fields by their slots, the rows by the slots of their fields -/
abbrev ST : Type := (Nat → Int32) × (Nat → Nat → Int32)
def s_set (σ : ST) (k : Nat) (v : Int32) : ST := (fun j => if j = k then v else σ.1 j, σ.2)
def s_put (σ : ST) (k i : Nat) (v : Int32) : ST := (σ.1, fun j => if j = k then upd (σ.2 j) i v else σ.2 j)
def b01 (b : Bool) : Int32 := if b = true then 1 else 0
def q_no : Addr → Prop := fun _ => False
/-- returns v, the heap as it was -/
def q_Q (v : Option Value) : Array Value → State → Outcome → State → Prop := fun _ st o t => o = .returned v ∧ t.heap = st.heap
/-- returns v, the heap has P1, nothing outside A has changed -/
def u_Q (v : Option Value) (P1 : Heap → Prop) (A : Nat → Prop) : Array Value → State → Outcome → State → Prop := fun _ st o t => (o = .returned v ∧ P1 t.heap) ∧ va_F A st t
abbrev kTY (tI tZ tL : ClassId) : List (ClassId × FieldType) := [(tI, .int), (tZ, .boolean), (tL, .long)]
theorem va_D_of {A : Nat → Prop} {ws : va_W} (h1 : (ws.map (fun q => q.1)).Nodup) (h2 : ∀ q ∈ ws.map (fun q => q.1), A q) : va_D A ws := by
  refine ⟨fun i j p q hi hj e => ?_, fun k q hk => h2 _ (List.mem_map.mpr ⟨q, List.mem_of_getElem? hk, rfl⟩)⟩
  have a1 : (ws.map (fun q => q.1))[i]? = some p.1 := by rw [List.getElem?_map, hi]; rfl
  have a2 : (ws.map (fun q => q.1))[j]? = some p.1 := by rw [List.getElem?_map, hj, e]; rfl
  have hi' : i < (ws.map (fun q => q.1)).length := (List.getElem?_eq_some_iff.mp a1).1
  exact (List.getElem?_inj hi' h1).mp (a1.trans a2.symm)
/-- a read-only method's body -/
abbrev q_G (p : Program) (l : Launch) (e : Env) (rm : Room) (s : State) (m : MethodId) (args : Array Value) (below : List Frame) (meth : Method) (c : Code) (v : Option Value) (g : JFrame) : Prop := W p l e rm s m args below meth c s.heap [] 0 0 (MQ below (q_Q v) args s 0 0 q_no) g
theorem q_met {y : MethodName} {ws ws' : List Cond} {rm : Room} {maxL : Nat} {ret : Option FieldType} {av : List Value} {Bp : State → Prop} {v : Option Value} (hy : plainName y.cls = true) (hw : ws = Cond.code y cc maxL ret :: ws') (hlen : (lg_sl av).length ≤ maxL)
    (body : ∀ (p : Program) (e : Env) (s : State) (m : MethodId) (below : List Frame) (meth : Method) (c : Code), p.tables.exec = Jvm.exec → c.code = cc → c.maxLocals = maxL → meth.sig.returnType = ret → (∀ w ∈ ws, w.before av.toArray s = true) → s.vm.findClass y.cls = some m.cls → meth.locks = false → Bp s → ∀ ls, lv_has ls maxL (lv_args 0 av) → q_G p l e rm s m av.toArray below meth c v (F0 m 0 ls [])) :
    Met l y ws rm (va_Pc av Bp) (q_Q v) 0 0 q_no := by
  refine Met.ofW (cc := cc) (maxL := maxL) (ret := ret) hy hw ?_
  intro p e s m args below meth c s₁ B hml hv
  obtain ⟨rfl, hB⟩ := hv
  have hl := lv_entry av (n := maxL) hlen
  rw [lg_entry_eq]
  exact body p e s m below meth c B.exec B.bytes hml B.returns (atoms_spec (ws := ws) B.pre) (findClass_of_methodNamed B.named) B.notSynchronized hB _ hl
/-- a method that changes cells of A alone -/
abbrev u_G (p : Program) (l : Launch) (e : Env) (rm : Room) (s : State) (m : MethodId) (args : Array Value) (below : List Frame) (meth : Method) (c : Code) (H : Heap) (locs : List Loc) (v : Option Value) (P1 : Heap → Prop) (A : Nat → Prop) (g : JFrame) : Prop := W p l e rm s m args below meth c H locs 0 0 (MQ below (u_Q v P1 A) args s 0 0 A) g
theorem u_met {y : MethodName} {ws ws' : List Cond} {rm : Room} {maxL : Nat} {ret : Option FieldType} {av : List Value} {Bp : State → Prop} {v : Option Value} {P1 : Heap → Prop} {A : Nat → Prop} (hy : plainName y.cls = true) (hw : ws = Cond.code y cc maxL ret :: ws') (hlen : (lg_sl av).length ≤ maxL)
    (body : ∀ (p : Program) (e : Env) (s : State) (m : MethodId) (below : List Frame) (meth : Method) (c : Code), p.tables.exec = Jvm.exec → c.code = cc → c.maxLocals = maxL → meth.sig.returnType = ret → (∀ w ∈ ws, w.before av.toArray s = true) → s.vm.findClass y.cls = some m.cls → meth.locks = false → Bp s → va_S A s.heap s.heap [] → ∀ ls, lv_has ls maxL (lv_args 0 av) → u_G p l e rm s m av.toArray below meth c s.heap [] v P1 A (F0 m 0 ls [])) :
    Met l y ws rm (va_Pc av Bp) (u_Q v P1 A) 0 0 A := by
  refine Met.ofW (cc := cc) (maxL := maxL) (ret := ret) hy hw ?_
  intro p e s m args below meth c s₁ B hml hv
  obtain ⟨rfl, hB⟩ := hv
  have hl := lv_entry av (n := maxL) hlen
  rw [lg_entry_eq]
  exact body p e s m below meth c B.exec B.bytes hml B.returns (atoms_spec (ws := ws) B.pre) (findClass_of_methodNamed B.named) B.notSynchronized hB va_S.rf _ hl
/-- the ends -/
theorem q_iret {v r : Int32} (hx : p.tables.exec = Jvm.exec) (hb : c.code = cc) (hr : meth.sig.returnType = some .int) (hlocks : meth.locks = false) (h : v = r) (hdg : decode cc pc = .ok (.ireturn, 1)) : q_G p l e R s m args below meth c (some (.int r)) (F0 m pc ls [.int v]) := by
  subst h
  exact W.iret hx hb hr (fun t ht _ => ⟨rfl, ht⟩) (fun q h => by cases h) hdg hlocks
theorem narrow_b01 (b : Bool) : narrow .boolean (.int (b01 b)) = .int (b01 b) := by cases b <;> rfl
theorem q_zret {v : Int32} {r : Bool} (hx : p.tables.exec = Jvm.exec) (hb : c.code = cc) (hr : meth.sig.returnType = some .boolean) (hlocks : meth.locks = false) (h : v = b01 r) (hdg : decode cc pc = .ok (.ireturn, 1)) : q_G p l e R s m args below meth c (some (.int (b01 r))) (F0 m pc ls [.int v]) := by
  subst h
  exact W.zret hx hb hr (narrow_b01 r) (fun t ht _ => ⟨rfl, ht⟩) (fun q h => by cases h) hdg hlocks
theorem q_vret (hx : p.tables.exec = Jvm.exec) (hb : c.code = cc) (hr : meth.sig.returnType = none) (hlocks : meth.locks = false) (hdg : decode cc pc = .ok (.return_, 1)) : q_G p l e R s m args below meth c none (F0 m pc ls []) :=
  W.vret hx hb hr (fun t ht _ => ⟨rfl, ht⟩) (fun q h => by cases h) hdg hlocks
theorem u_iret {v r : Int32} {P1 : Heap → Prop} {A : Nat → Prop} (hx : p.tables.exec = Jvm.exec) (hb : c.code = cc) (hr : meth.sig.returnType = some .int) (hlocks : meth.locks = false) (hS : va_S A s.heap H locs) (hP : P1 H) (h : v = r) (hdg : decode cc pc = .ok (.ireturn, 1)) : u_G p l e R s m args below meth c H locs (some (.int r)) P1 A (F0 m pc ls [.int v]) := by
  subst h
  exact W.iret hx hb hr (fun t ht _ => ⟨⟨rfl, by rw [ht]; exact hP⟩, hS.F ht⟩) hS.2.2 hdg hlocks
theorem u_zret {v : Int32} {r : Bool} {P1 : Heap → Prop} {A : Nat → Prop} (hx : p.tables.exec = Jvm.exec) (hb : c.code = cc) (hr : meth.sig.returnType = some .boolean) (hlocks : meth.locks = false) (hS : va_S A s.heap H locs) (hP : P1 H) (h : v = b01 r) (hdg : decode cc pc = .ok (.ireturn, 1)) : u_G p l e R s m args below meth c H locs (some (.int (b01 r))) P1 A (F0 m pc ls [.int v]) := by
  subst h
  exact W.zret hx hb hr (narrow_b01 r) (fun t ht _ => ⟨⟨rfl, by rw [ht]; exact hP⟩, hS.F ht⟩) hS.2.2 hdg hlocks
theorem u_vret {P1 : Heap → Prop} {A : Nat → Prop} (hx : p.tables.exec = Jvm.exec) (hb : c.code = cc) (hr : meth.sig.returnType = none) (hlocks : meth.locks = false) (hS : va_S A s.heap H locs) (hP : P1 H) (hdg : decode cc pc = .ok (.return_, 1)) : u_G p l e R s m args below meth c H locs none P1 A (F0 m pc ls []) :=
  W.vret hx hb hr (fun t ht _ => ⟨⟨rfl, by rw [ht]; exact hP⟩, hS.F ht⟩) hS.2.2 hdg hlocks
/-- behind a call of a read-only method -/
theorem q_call {st0 : List Value} {v : Option Value} {a : Array Value} (hr : va_Run p l e R s m args below meth c H locs cells slots 0 0 (F0 m pc ls st0) rest (q_Q v a) q_no) (kk : W p l e R s m args below meth c H locs cells slots Q (F0 m (pc + 3) ls (v.toList ++ rest))) : W p l e R s m args below meth c H locs cells slots Q (F0 m pc ls st0) := by
  intro T hT X
  obtain ⟨v9, st₀, t, T', L, h0, X', hL, e1, e2, ⟨hv, hz⟩, st⟩ := hr T hT X
  cases hv
  have hL0 : L = [] := by
    cases L with
    | nil => rfl
    | cons q L => exact absurd (hL q List.mem_cons_self) (fun h => h)
  subst hL0
  rw [List.append_nil] at X'
  obtain ⟨t2, a1, b1⟩ := kk T' (by rw [e1, hz, h0]) X'
  exact ⟨t2, st t2 a1, b1⟩
/-- behind a call of a method that changes cells of A1 alone -/
theorem u_call {st0 : List Value} {v : Option Value} {a : Array Value} {P1 : Heap → Prop} {A1 A0 free : Nat → Prop} {H0 : Heap} (hr : va_Run p l e R s m args below meth c H locs cells slots 0 0 (F0 m pc ls st0) rest (u_Q v P1 A1 a) free) (hS : va_S A0 H0 H locs) (hA : ∀ q, A1 q → A0 q) (hf : ∀ q, free q → A0 q)
    (kk : ∀ (H1 : Heap) (locs1 : List Loc), P1 H1 → H.size ≤ H1.size → (∀ q : Nat, q < H.size → ¬ A1 q → H1[q]? = H[q]?) → va_S A0 H0 H1 locs1 → W p l e R s m args below meth c H1 locs1 cells slots Q (F0 m (pc + 3) ls (v.toList ++ rest))) : W p l e R s m args below meth c H locs cells slots Q (F0 m pc ls st0) := by
  intro T hT X
  obtain ⟨v9, st₀, t, T', L, h0, X', hL, e1, e2, ⟨⟨hv, hp⟩, hz, hk⟩, st⟩ := hr T hT X
  cases hv
  rw [h0] at hz hk
  obtain ⟨t2, a1, b1⟩ := kk T'.heap (locs ++ L) (by rw [e1]; exact hp) (by rw [e1]; exact hz) (fun q h1 h2 => by rw [e1]; exact hk q h1 h2)
    ⟨Nat.le_trans hS.1 (by rw [e1]; exact hz), fun q h1 h2 => by rw [e1, hk q (Nat.lt_of_lt_of_le h1 hS.1) (fun z => h2 (hA q z))]; exact hS.2.1 q h1 h2, fun q hq => by
      rcases List.mem_append.mp hq with h | h
      · exact hS.2.2 q h
      · exact hf _ (hL q h)⟩ T' rfl X'
  exact ⟨t2, st t2 a1, b1⟩
theorem lv_to {ls : Array Slot} {n : Nat} {L L' : List (Nat × Value)} (h : lv_has ls n L) (e : L = L') : lv_has ls n L' := e ▸ h
theorem lv_ci {i : Nat} {a b : Int32} {L L' : List (Nat × Value)} (h : a = b) (t : L = L') : (i, Value.int a) :: L = (i, Value.int b) :: L' := by rw [h, t]
theorem lv_cr {q : Nat × Value} {L L' : List (Nat × Value)} (t : L = L') : q :: L = q :: L' := by rw [t]
/-- branches on a bool -/
theorem lv_ifeq_b {b : Bool} {off : Int} {tgt : Nat} (hexec : p.tables.exec = Jvm.exec) (hb : c.code = cc) (hdg : decode cc pc = .ok (.ifCond .eq off, 3)) (ht : (pc : Int) + off = (tgt : Int))
    (kt : b = false → W p l e R s m args below meth c H locs cells slots Q (F0 m tgt ls rest)) (kf : b = true → W p l e R s m args below meth c H locs cells slots Q (F0 m (pc + 3) ls rest)) : W p l e R s m args below meth c H locs cells slots Q (F0 m pc ls (.int (b01 b) :: rest)) := by
  cases b with
  | false => exact lv_if_eq hexec hb hdg ht (fun _ => kt rfl) (fun h => absurd rfl h)
  | true => exact lv_if_eq hexec hb hdg ht (fun h => absurd (show (1 : Int32) = 0 from h) (by decide)) (fun _ => kf rfl)
theorem lv_ifne_b {b : Bool} {off : Int} {tgt : Nat} (hexec : p.tables.exec = Jvm.exec) (hb : c.code = cc) (hdg : decode cc pc = .ok (.ifCond .ne off, 3)) (ht : (pc : Int) + off = (tgt : Int))
    (kt : b = true → W p l e R s m args below meth c H locs cells slots Q (F0 m tgt ls rest)) (kf : b = false → W p l e R s m args below meth c H locs cells slots Q (F0 m (pc + 3) ls rest)) : W p l e R s m args below meth c H locs cells slots Q (F0 m pc ls (.int (b01 b) :: rest)) := by
  cases b with
  | false => exact lv_if_ne hexec hb hdg ht (fun h => absurd rfl h) (fun _ => kf rfl)
  | true => exact lv_if_ne hexec hb hdg ht (fun _ => kt rfl) (fun h => absurd (show (1 : Int32) = 0 from h) (by decide))
/-- words of a class among a method's -/
theorem ty_blind {av : List Value} {Bp : State → Prop} (h : ∀ (U V : State), U.heap = V.heap → U.vm.Alike V.vm → Bp U → Bp V) : FrameBlind (va_Pc av Bp) := fun a U g mk q => ⟨q.1, h U _ rfl (Vm.Alike.refl U.vm) q.2⟩
end KB
end
