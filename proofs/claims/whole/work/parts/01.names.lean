-- ===== PART A: goes FIRST, ahead of the names: the tables' words, and 'selects' of the private methods out of them =====
/-- a private method of a class that the tables say can be made, by its rows of tables_1 -/
def lw_okq (q : MethodName × Nat) : Prop := (q.1.cls ≠ "java/lang/invoke/MethodHandle" ∧ q.1.cls ≠ "java/lang/invoke/VarHandle") ∧ Cond.instantiable q.1.cls q.2 ∈ tables_1 ∧ Cond.privateMethod q.1 ∈ tables_1 ∧ Cond.instanceMethod q.1 ∈ tables_1
theorem lw_p0 : lw_okq (⟨"IgnoreRules$RuleList", "load", "([CI)Z"⟩, 6) := ⟨⟨by decide +kernel, by decide +kernel⟩, List.mem_of_getElem? (i := 22) (by decide +kernel), List.mem_of_getElem? (i := 117) (by decide +kernel), List.mem_of_getElem? (i := 118) (by decide +kernel)⟩
theorem lw_p1 : lw_okq (⟨"IgnoreRules$RuleList", "withoutBlanks", "(II)I"⟩, 6) := ⟨⟨by decide +kernel, by decide +kernel⟩, List.mem_of_getElem? (i := 22) (by decide +kernel), List.mem_of_getElem? (i := 121) (by decide +kernel), List.mem_of_getElem? (i := 122) (by decide +kernel)⟩
theorem lw_p2 : lw_okq (⟨"IgnoreRules$RuleList", "isEscaped", "(II)Z"⟩, 6) := ⟨⟨by decide +kernel, by decide +kernel⟩, List.mem_of_getElem? (i := 22) (by decide +kernel), List.mem_of_getElem? (i := 125) (by decide +kernel), List.mem_of_getElem? (i := 126) (by decide +kernel)⟩
theorem lw_p3 : lw_okq (⟨"IgnoreRules$RuleList", "add", "(III)V"⟩, 6) := ⟨⟨by decide +kernel, by decide +kernel⟩, List.mem_of_getElem? (i := 22) (by decide +kernel), List.mem_of_getElem? (i := 129) (by decide +kernel), List.mem_of_getElem? (i := 130) (by decide +kernel)⟩
theorem lw_p4 : lw_okq (⟨"IgnoreRules$RuleList", "endOfName", "(II)I"⟩, 6) := ⟨⟨by decide +kernel, by decide +kernel⟩, List.mem_of_getElem? (i := 22) (by decide +kernel), List.mem_of_getElem? (i := 133) (by decide +kernel), List.mem_of_getElem? (i := 134) (by decide +kernel)⟩
theorem lw_p5 : lw_okq (⟨"IgnoreRules$RuleList", "hasVoidName", "(II)Z"⟩, 6) := ⟨⟨by decide +kernel, by decide +kernel⟩, List.mem_of_getElem? (i := 22) (by decide +kernel), List.mem_of_getElem? (i := 137) (by decide +kernel), List.mem_of_getElem? (i := 138) (by decide +kernel)⟩
theorem lw_p6 : lw_okq (⟨"IgnoreRules$Path", "load", "([CI)Z"⟩, 3) := ⟨⟨by decide +kernel, by decide +kernel⟩, List.mem_of_getElem? (i := 57) (by decide +kernel), List.mem_of_getElem? (i := 151) (by decide +kernel), List.mem_of_getElem? (i := 152) (by decide +kernel)⟩
theorem lw_p7 : lw_okq (⟨"java/lang/Throwable", "fillInStackTrace", "(I)Ljava/lang/Throwable;"⟩, 6) := ⟨⟨by decide +kernel, by decide +kernel⟩, List.mem_of_getElem? (i := 201) (by decide +kernel), List.mem_of_getElem? (i := 199) (by decide +kernel), List.mem_of_getElem? (i := 200) (by decide +kernel)⟩
theorem lw_p8 : lw_okq (⟨"IgnoreRules", "requireRule", "(I)V"⟩, 6) := ⟨⟨by decide +kernel, by decide +kernel⟩, List.mem_of_getElem? (i := 14) (by decide +kernel), List.mem_of_getElem? (i := 240) (by decide +kernel), List.mem_of_getElem? (i := 241) (by decide +kernel)⟩
theorem lw_p9 : lw_okq (⟨"IgnoreRules$RuleList", "countNames", "(I)I"⟩, 6) := ⟨⟨by decide +kernel, by decide +kernel⟩, List.mem_of_getElem? (i := 22) (by decide +kernel), List.mem_of_getElem? (i := 260) (by decide +kernel), List.mem_of_getElem? (i := 261) (by decide +kernel)⟩
theorem lw_p10 : lw_okq (⟨"IgnoreRules", "requirePath", "()V"⟩, 6) := ⟨⟨by decide +kernel, by decide +kernel⟩, List.mem_of_getElem? (i := 14) (by decide +kernel), List.mem_of_getElem? (i := 273) (by decide +kernel), List.mem_of_getElem? (i := 274) (by decide +kernel)⟩
theorem lw_p11 : lw_okq (⟨"IgnoreRules$Matcher", "ruleFits", "(LIgnoreRules$RuleList;ILIgnoreRules$Path;IZ)Z"⟩, 2) := ⟨⟨by decide +kernel, by decide +kernel⟩, List.mem_of_getElem? (i := 76) (by decide +kernel), List.mem_of_getElem? (i := 293) (by decide +kernel), List.mem_of_getElem? (i := 294) (by decide +kernel)⟩
theorem lw_p12 : lw_okq (⟨"IgnoreRules$Matcher", "takeName", "([CIILIgnoreRules$Path;IZ)V"⟩, 2) := ⟨⟨by decide +kernel, by decide +kernel⟩, List.mem_of_getElem? (i := 76) (by decide +kernel), List.mem_of_getElem? (i := 306) (by decide +kernel), List.mem_of_getElem? (i := 307) (by decide +kernel)⟩
theorem lw_p13 : lw_okq (⟨"IgnoreRules$Matcher", "nameFits", "([CIILIgnoreRules$Path;I)Z"⟩, 2) := ⟨⟨by decide +kernel, by decide +kernel⟩, List.mem_of_getElem? (i := 76) (by decide +kernel), List.mem_of_getElem? (i := 310) (by decide +kernel), List.mem_of_getElem? (i := 311) (by decide +kernel)⟩
theorem lw_p14 : lw_okq (⟨"IgnoreRules$Path", "lengthOf", "(I)I"⟩, 3) := ⟨⟨by decide +kernel, by decide +kernel⟩, List.mem_of_getElem? (i := 57) (by decide +kernel), List.mem_of_getElem? (i := 314) (by decide +kernel), List.mem_of_getElem? (i := 315) (by decide +kernel)⟩
theorem lw_p15 : lw_okq (⟨"IgnoreRules", "decidingDepth", "()I"⟩, 6) := ⟨⟨by decide +kernel, by decide +kernel⟩, List.mem_of_getElem? (i := 14) (by decide +kernel), List.mem_of_getElem? (i := 329) (by decide +kernel), List.mem_of_getElem? (i := 330) (by decide +kernel)⟩
def lw_privs_1 : List (MethodName × Nat) := [(⟨"IgnoreRules$RuleList", "load", "([CI)Z"⟩, 6), (⟨"IgnoreRules$RuleList", "withoutBlanks", "(II)I"⟩, 6), (⟨"IgnoreRules$RuleList", "isEscaped", "(II)Z"⟩, 6), (⟨"IgnoreRules$RuleList", "add", "(III)V"⟩, 6), (⟨"IgnoreRules$RuleList", "endOfName", "(II)I"⟩, 6), (⟨"IgnoreRules$RuleList", "hasVoidName", "(II)Z"⟩, 6), (⟨"IgnoreRules$Path", "load", "([CI)Z"⟩, 3), (⟨"java/lang/Throwable", "fillInStackTrace", "(I)Ljava/lang/Throwable;"⟩, 6), (⟨"IgnoreRules", "requireRule", "(I)V"⟩, 6), (⟨"IgnoreRules$RuleList", "countNames", "(I)I"⟩, 6), (⟨"IgnoreRules", "requirePath", "()V"⟩, 6), (⟨"IgnoreRules$Matcher", "ruleFits", "(LIgnoreRules$RuleList;ILIgnoreRules$Path;IZ)Z"⟩, 2), (⟨"IgnoreRules$Matcher", "takeName", "([CIILIgnoreRules$Path;IZ)V"⟩, 2), (⟨"IgnoreRules$Matcher", "nameFits", "([CIILIgnoreRules$Path;I)Z"⟩, 2), (⟨"IgnoreRules$Path", "lengthOf", "(I)I"⟩, 3), (⟨"IgnoreRules", "decidingDepth", "()I"⟩, 6)]
theorem lw_r1 : ∀ q ∈ lw_privs_1, lw_okq q := List.forall_mem_cons.mpr ⟨lw_p0, List.forall_mem_cons.mpr ⟨lw_p1, List.forall_mem_cons.mpr ⟨lw_p2, List.forall_mem_cons.mpr ⟨lw_p3, List.forall_mem_cons.mpr ⟨lw_p4, List.forall_mem_cons.mpr ⟨lw_p5, List.forall_mem_cons.mpr ⟨lw_p6, List.forall_mem_cons.mpr ⟨lw_p7, List.forall_mem_cons.mpr ⟨lw_p8, List.forall_mem_cons.mpr ⟨lw_p9, List.forall_mem_cons.mpr ⟨lw_p10, List.forall_mem_cons.mpr ⟨lw_p11, List.forall_mem_cons.mpr ⟨lw_p12, List.forall_mem_cons.mpr ⟨lw_p13, List.forall_mem_cons.mpr ⟨lw_p14, List.forall_mem_cons.mpr ⟨lw_p15, fun _ h => absurd h List.not_mem_nil⟩⟩⟩⟩⟩⟩⟩⟩⟩⟩⟩⟩⟩⟩⟩⟩
theorem lw_p16 : lw_okq (⟨"IgnoreRules", "lastFitting", "(IZ)I"⟩, 6) := ⟨⟨by decide +kernel, by decide +kernel⟩, List.mem_of_getElem? (i := 14) (by decide +kernel), List.mem_of_getElem? (i := 333) (by decide +kernel), List.mem_of_getElem? (i := 334) (by decide +kernel)⟩
theorem lw_p17 : lw_okq (⟨"IgnoreRules", "leavesOut", "(I)Z"⟩, 6) := ⟨⟨by decide +kernel, by decide +kernel⟩, List.mem_of_getElem? (i := 14) (by decide +kernel), List.mem_of_getElem? (i := 337) (by decide +kernel), List.mem_of_getElem? (i := 338) (by decide +kernel)⟩
theorem lw_p18 : lw_okq (⟨"IgnoreRules$RuleList", "nameStart", "(II)I"⟩, 6) := ⟨⟨by decide +kernel, by decide +kernel⟩, List.mem_of_getElem? (i := 22) (by decide +kernel), List.mem_of_getElem? (i := 371) (by decide +kernel), List.mem_of_getElem? (i := 372) (by decide +kernel)⟩
theorem lw_p19 : lw_okq (⟨"IgnoreRules$RuleList", "nameEnd", "(II)I"⟩, 6) := ⟨⟨by decide +kernel, by decide +kernel⟩, List.mem_of_getElem? (i := 22) (by decide +kernel), List.mem_of_getElem? (i := 375) (by decide +kernel), List.mem_of_getElem? (i := 376) (by decide +kernel)⟩
theorem lw_p20 : lw_okq (⟨"IgnoreRulesModel", "swapText", "(Z)V"⟩, 26) := ⟨⟨by decide +kernel, by decide +kernel⟩, List.mem_of_getElem? (i := 380) (by decide +kernel), List.mem_of_getElem? (i := 482) (by decide +kernel), List.mem_of_getElem? (i := 483) (by decide +kernel)⟩
theorem lw_p21 : lw_okq (⟨"IgnoreRulesModel", "tryLines", "()I"⟩, 26) := ⟨⟨by decide +kernel, by decide +kernel⟩, List.mem_of_getElem? (i := 380) (by decide +kernel), List.mem_of_getElem? (i := 486) (by decide +kernel), List.mem_of_getElem? (i := 487) (by decide +kernel)⟩
theorem lw_p22 : lw_okq (⟨"IgnoreRulesModel", "line", "(III)V"⟩, 26) := ⟨⟨by decide +kernel, by decide +kernel⟩, List.mem_of_getElem? (i := 380) (by decide +kernel), List.mem_of_getElem? (i := 490) (by decide +kernel), List.mem_of_getElem? (i := 491) (by decide +kernel)⟩
theorem lw_p23 : lw_okq (⟨"IgnoreRulesModel", "isBehindOdd", "(II)Z"⟩, 26) := ⟨⟨by decide +kernel, by decide +kernel⟩, List.mem_of_getElem? (i := 380) (by decide +kernel), List.mem_of_getElem? (i := 494) (by decide +kernel), List.mem_of_getElem? (i := 495) (by decide +kernel)⟩
theorem lw_p24 : lw_okq (⟨"IgnoreRulesModel", "has", "(III)Z"⟩, 26) := ⟨⟨by decide +kernel, by decide +kernel⟩, List.mem_of_getElem? (i := 380) (by decide +kernel), List.mem_of_getElem? (i := 498) (by decide +kernel), List.mem_of_getElem? (i := 499) (by decide +kernel)⟩
theorem lw_p25 : lw_okq (⟨"IgnoreRulesModel", "what", "(IIZZZ)I"⟩, 26) := ⟨⟨by decide +kernel, by decide +kernel⟩, List.mem_of_getElem? (i := 380) (by decide +kernel), List.mem_of_getElem? (i := 502) (by decide +kernel), List.mem_of_getElem? (i := 503) (by decide +kernel)⟩
theorem lw_p26 : lw_okq (⟨"IgnoreRulesModel", "findParts", "(II)V"⟩, 26) := ⟨⟨by decide +kernel, by decide +kernel⟩, List.mem_of_getElem? (i := 380) (by decide +kernel), List.mem_of_getElem? (i := 506) (by decide +kernel), List.mem_of_getElem? (i := 507) (by decide +kernel)⟩
theorem lw_p27 : lw_okq (⟨"IgnoreRulesModel", "isVoidName", "(II)Z"⟩, 26) := ⟨⟨by decide +kernel, by decide +kernel⟩, List.mem_of_getElem? (i := 380) (by decide +kernel), List.mem_of_getElem? (i := 510) (by decide +kernel), List.mem_of_getElem? (i := 511) (by decide +kernel)⟩
theorem lw_p28 : lw_okq (⟨"IgnoreRulesModel", "look", "(II)V"⟩, 26) := ⟨⟨by decide +kernel, by decide +kernel⟩, List.mem_of_getElem? (i := 380) (by decide +kernel), List.mem_of_getElem? (i := 514) (by decide +kernel), List.mem_of_getElem? (i := 515) (by decide +kernel)⟩
theorem lw_p29 : lw_okq (⟨"IgnoreRulesModel", "setEnd", "(II)I"⟩, 26) := ⟨⟨by decide +kernel, by decide +kernel⟩, List.mem_of_getElem? (i := 380) (by decide +kernel), List.mem_of_getElem? (i := 518) (by decide +kernel), List.mem_of_getElem? (i := 519) (by decide +kernel)⟩
theorem lw_p30 : lw_okq (⟨"IgnoreRulesModel", "itemsFrom", "(II)I"⟩, 26) := ⟨⟨by decide +kernel, by decide +kernel⟩, List.mem_of_getElem? (i := 380) (by decide +kernel), List.mem_of_getElem? (i := 522) (by decide +kernel), List.mem_of_getElem? (i := 523) (by decide +kernel)⟩
theorem lw_p31 : lw_okq (⟨"IgnoreRulesModel", "itemEnd", "(I)I"⟩, 26) := ⟨⟨by decide +kernel, by decide +kernel⟩, List.mem_of_getElem? (i := 380) (by decide +kernel), List.mem_of_getElem? (i := 526) (by decide +kernel), List.mem_of_getElem? (i := 527) (by decide +kernel)⟩
def lw_privs_2 : List (MethodName × Nat) := [(⟨"IgnoreRules", "lastFitting", "(IZ)I"⟩, 6), (⟨"IgnoreRules", "leavesOut", "(I)Z"⟩, 6), (⟨"IgnoreRules$RuleList", "nameStart", "(II)I"⟩, 6), (⟨"IgnoreRules$RuleList", "nameEnd", "(II)I"⟩, 6), (⟨"IgnoreRulesModel", "swapText", "(Z)V"⟩, 26), (⟨"IgnoreRulesModel", "tryLines", "()I"⟩, 26), (⟨"IgnoreRulesModel", "line", "(III)V"⟩, 26), (⟨"IgnoreRulesModel", "isBehindOdd", "(II)Z"⟩, 26), (⟨"IgnoreRulesModel", "has", "(III)Z"⟩, 26), (⟨"IgnoreRulesModel", "what", "(IIZZZ)I"⟩, 26), (⟨"IgnoreRulesModel", "findParts", "(II)V"⟩, 26), (⟨"IgnoreRulesModel", "isVoidName", "(II)Z"⟩, 26), (⟨"IgnoreRulesModel", "look", "(II)V"⟩, 26), (⟨"IgnoreRulesModel", "setEnd", "(II)I"⟩, 26), (⟨"IgnoreRulesModel", "itemsFrom", "(II)I"⟩, 26), (⟨"IgnoreRulesModel", "itemEnd", "(I)I"⟩, 26)]
theorem lw_r2 : ∀ q ∈ lw_privs_2, lw_okq q := List.forall_mem_cons.mpr ⟨lw_p16, List.forall_mem_cons.mpr ⟨lw_p17, List.forall_mem_cons.mpr ⟨lw_p18, List.forall_mem_cons.mpr ⟨lw_p19, List.forall_mem_cons.mpr ⟨lw_p20, List.forall_mem_cons.mpr ⟨lw_p21, List.forall_mem_cons.mpr ⟨lw_p22, List.forall_mem_cons.mpr ⟨lw_p23, List.forall_mem_cons.mpr ⟨lw_p24, List.forall_mem_cons.mpr ⟨lw_p25, List.forall_mem_cons.mpr ⟨lw_p26, List.forall_mem_cons.mpr ⟨lw_p27, List.forall_mem_cons.mpr ⟨lw_p28, List.forall_mem_cons.mpr ⟨lw_p29, List.forall_mem_cons.mpr ⟨lw_p30, List.forall_mem_cons.mpr ⟨lw_p31, fun _ h => absurd h List.not_mem_nil⟩⟩⟩⟩⟩⟩⟩⟩⟩⟩⟩⟩⟩⟩⟩⟩
theorem lw_p32 : lw_okq (⟨"IgnoreRulesModel", "isRow", "(II)Z"⟩, 26) := ⟨⟨by decide +kernel, by decide +kernel⟩, List.mem_of_getElem? (i := 380) (by decide +kernel), List.mem_of_getElem? (i := 530) (by decide +kernel), List.mem_of_getElem? (i := 531) (by decide +kernel)⟩
theorem lw_p33 : lw_okq (⟨"IgnoreRulesModel", "noRule", "(I)Z"⟩, 26) := ⟨⟨by decide +kernel, by decide +kernel⟩, List.mem_of_getElem? (i := 380) (by decide +kernel), List.mem_of_getElem? (i := 538) (by decide +kernel), List.mem_of_getElem? (i := 539) (by decide +kernel)⟩
theorem lw_p34 : lw_okq (⟨"IgnoreRulesModel", "isPath", "()Z"⟩, 26) := ⟨⟨by decide +kernel, by decide +kernel⟩, List.mem_of_getElem? (i := 380) (by decide +kernel), List.mem_of_getElem? (i := 546) (by decide +kernel), List.mem_of_getElem? (i := 547) (by decide +kernel)⟩
theorem lw_p35 : lw_okq (⟨"IgnoreRulesModel", "fitsFirst", "(IIZ)Z"⟩, 26) := ⟨⟨by decide +kernel, by decide +kernel⟩, List.mem_of_getElem? (i := 380) (by decide +kernel), List.mem_of_getElem? (i := 554) (by decide +kernel), List.mem_of_getElem? (i := 555) (by decide +kernel)⟩
theorem lw_p36 : lw_okq (⟨"IgnoreRulesModel", "fitsBound", "(II)Z"⟩, 26) := ⟨⟨by decide +kernel, by decide +kernel⟩, List.mem_of_getElem? (i := 380) (by decide +kernel), List.mem_of_getElem? (i := 558) (by decide +kernel), List.mem_of_getElem? (i := 559) (by decide +kernel)⟩
theorem lw_p37 : lw_okq (⟨"IgnoreRulesModel", "isDeep", "(II)Z"⟩, 26) := ⟨⟨by decide +kernel, by decide +kernel⟩, List.mem_of_getElem? (i := 380) (by decide +kernel), List.mem_of_getElem? (i := 562) (by decide +kernel), List.mem_of_getElem? (i := 563) (by decide +kernel)⟩
theorem lw_p38 : lw_okq (⟨"IgnoreRulesModel", "fitsName", "(III)Z"⟩, 26) := ⟨⟨by decide +kernel, by decide +kernel⟩, List.mem_of_getElem? (i := 380) (by decide +kernel), List.mem_of_getElem? (i := 566) (by decide +kernel), List.mem_of_getElem? (i := 567) (by decide +kernel)⟩
theorem lw_p39 : lw_okq (⟨"IgnoreRulesModel", "pass", "(II)V"⟩, 26) := ⟨⟨by decide +kernel, by decide +kernel⟩, List.mem_of_getElem? (i := 380) (by decide +kernel), List.mem_of_getElem? (i := 570) (by decide +kernel), List.mem_of_getElem? (i := 571) (by decide +kernel)⟩
theorem lw_p40 : lw_okq (⟨"IgnoreRulesModel", "takes", "(III)Z"⟩, 26) := ⟨⟨by decide +kernel, by decide +kernel⟩, List.mem_of_getElem? (i := 380) (by decide +kernel), List.mem_of_getElem? (i := 574) (by decide +kernel), List.mem_of_getElem? (i := 575) (by decide +kernel)⟩
theorem lw_p41 : lw_okq (⟨"IgnoreRulesModel", "isInSet", "(III)Z"⟩, 26) := ⟨⟨by decide +kernel, by decide +kernel⟩, List.mem_of_getElem? (i := 380) (by decide +kernel), List.mem_of_getElem? (i := 578) (by decide +kernel), List.mem_of_getElem? (i := 579) (by decide +kernel)⟩
theorem lw_p42 : lw_okq (⟨"IgnoreRulesModel", "itemByte", "(I)I"⟩, 26) := ⟨⟨by decide +kernel, by decide +kernel⟩, List.mem_of_getElem? (i := 380) (by decide +kernel), List.mem_of_getElem? (i := 582) (by decide +kernel), List.mem_of_getElem? (i := 583) (by decide +kernel)⟩
theorem lw_p43 : lw_okq (⟨"IgnoreRulesModel", "decide", "(Z)V"⟩, 26) := ⟨⟨by decide +kernel, by decide +kernel⟩, List.mem_of_getElem? (i := 380) (by decide +kernel), List.mem_of_getElem? (i := 590) (by decide +kernel), List.mem_of_getElem? (i := 591) (by decide +kernel)⟩
theorem lw_p44 : lw_okq (⟨"IgnoreRulesModel", "last", "(IZ)I"⟩, 26) := ⟨⟨by decide +kernel, by decide +kernel⟩, List.mem_of_getElem? (i := 380) (by decide +kernel), List.mem_of_getElem? (i := 594) (by decide +kernel), List.mem_of_getElem? (i := 595) (by decide +kernel)⟩
def lw_privs_3 : List (MethodName × Nat) := [(⟨"IgnoreRulesModel", "isRow", "(II)Z"⟩, 26), (⟨"IgnoreRulesModel", "noRule", "(I)Z"⟩, 26), (⟨"IgnoreRulesModel", "isPath", "()Z"⟩, 26), (⟨"IgnoreRulesModel", "fitsFirst", "(IIZ)Z"⟩, 26), (⟨"IgnoreRulesModel", "fitsBound", "(II)Z"⟩, 26), (⟨"IgnoreRulesModel", "isDeep", "(II)Z"⟩, 26), (⟨"IgnoreRulesModel", "fitsName", "(III)Z"⟩, 26), (⟨"IgnoreRulesModel", "pass", "(II)V"⟩, 26), (⟨"IgnoreRulesModel", "takes", "(III)Z"⟩, 26), (⟨"IgnoreRulesModel", "isInSet", "(III)Z"⟩, 26), (⟨"IgnoreRulesModel", "itemByte", "(I)I"⟩, 26), (⟨"IgnoreRulesModel", "decide", "(Z)V"⟩, 26), (⟨"IgnoreRulesModel", "last", "(IZ)I"⟩, 26)]
theorem lw_r3 : ∀ q ∈ lw_privs_3, lw_okq q := List.forall_mem_cons.mpr ⟨lw_p32, List.forall_mem_cons.mpr ⟨lw_p33, List.forall_mem_cons.mpr ⟨lw_p34, List.forall_mem_cons.mpr ⟨lw_p35, List.forall_mem_cons.mpr ⟨lw_p36, List.forall_mem_cons.mpr ⟨lw_p37, List.forall_mem_cons.mpr ⟨lw_p38, List.forall_mem_cons.mpr ⟨lw_p39, List.forall_mem_cons.mpr ⟨lw_p40, List.forall_mem_cons.mpr ⟨lw_p41, List.forall_mem_cons.mpr ⟨lw_p42, List.forall_mem_cons.mpr ⟨lw_p43, List.forall_mem_cons.mpr ⟨lw_p44, fun _ h => absurd h List.not_mem_nil⟩⟩⟩⟩⟩⟩⟩⟩⟩⟩⟩⟩⟩
def lw_privs : List (MethodName × Nat) := lw_privs_1 ++ (lw_privs_2 ++ (lw_privs_3))
def lw_tbl : List Cond := k2_sels lw_privs ++ tables_1
theorem lw_privs_ok : ∀ q ∈ lw_privs, lw_okq q := by
  show ∀ q ∈ lw_privs_1 ++ (lw_privs_2 ++ (lw_privs_3)), lw_okq q
  exact List.forall_mem_append.mpr ⟨lw_r1, List.forall_mem_append.mpr ⟨lw_r2, lw_r3⟩⟩
-- ===== names: by program out of the listing =====
def R_RL : String := "IgnoreRules$RuleList"
def R_PA : String := "IgnoreRules$Path"
def R_MA : String := "IgnoreRules$Matcher"
def R_IR : String := "IgnoreRules"
def R_RM : String := "IgnoreRulesModel"
def R_IT : String := "IgnoreRules$Items"
def R_LW : String := "IgnoreRulesLaw"
def F_RL : u_T := fun k => match k with
  | 0 => ("IgnoreRules$RuleList", "text", "[C", true)
  | 1 => ("IgnoreRules$RuleList", "starts", "[I", true)
  | 2 => ("IgnoreRules$RuleList", "ends", "[I", true)
  | 3 => ("IgnoreRules$RuleList", "bits", "[I", true)
  | 4 => ("IgnoreRules$RuleList", "lines", "[I", true)
  | _ => ("IgnoreRules$RuleList", "count", "I", false)
def t_RL : Nat → FieldType := fun k => match k with
  | 0 => .array .char
  | 1 => .array .int
  | 2 => .array .int
  | 3 => .array .int
  | 4 => .array .int
  | _ => .int
theorem n_RL : ∀ a, a < 6 → ∀ b, b < 6 → a ≠ b → (F_RL a).2.1 ≠ (F_RL b).2.1 := by decide +kernel
theorem t_RL_ok : ∀ k, k < 6 → parseFieldDescriptor (F_RL k).2.2.1 = some (t_RL k) := by decide +kernel
def F_PA : u_T := fun k => match k with
  | 0 => ("IgnoreRules$Path", "bytes", "[C", true)
  | 1 => ("IgnoreRules$Path", "starts", "[I", true)
  | _ => ("IgnoreRules$Path", "count", "I", false)
def t_PA : Nat → FieldType := fun k => match k with
  | 0 => .array .char
  | 1 => .array .int
  | _ => .int
theorem n_PA : ∀ a, a < 3 → ∀ b, b < 3 → a ≠ b → (F_PA a).2.1 ≠ (F_PA b).2.1 := by decide +kernel
theorem t_PA_ok : ∀ k, k < 3 → parseFieldDescriptor (F_PA k).2.2.1 = some (t_PA k) := by decide +kernel
def F_MA : u_T := fun k => match k with
  | 0 => ("IgnoreRules$Matcher", "namesTaken", "[Z", true)
  | _ => ("IgnoreRules$Matcher", "bytesTaken", "[Z", true)
def t_MA : Nat → FieldType := fun k => match k with
  | 0 => .array .boolean
  | _ => .array .boolean
theorem n_MA : ∀ a, a < 2 → ∀ b, b < 2 → a ≠ b → (F_MA a).2.1 ≠ (F_MA b).2.1 := by decide +kernel
theorem t_MA_ok : ∀ k, k < 2 → parseFieldDescriptor (F_MA k).2.2.1 = some (t_MA k) := by decide +kernel
def F_IR : u_T := fun k => match k with
  | 0 => ("IgnoreRules", "tape", "[C", true)
  | 1 => ("IgnoreRules", "tapeLength", "I", false)
  | 2 => ("IgnoreRules", "rules", "LIgnoreRules$RuleList;", false)
  | 3 => ("IgnoreRules", "spare", "LIgnoreRules$RuleList;", false)
  | 4 => ("IgnoreRules", "current", "LIgnoreRules$Path;", true)
  | _ => ("IgnoreRules", "matcher", "LIgnoreRules$Matcher;", true)
def t_IR : Nat → FieldType := fun k => match k with
  | 0 => .array .char
  | 1 => .int
  | 2 => .object "IgnoreRules$RuleList"
  | 3 => .object "IgnoreRules$RuleList"
  | 4 => .object "IgnoreRules$Path"
  | _ => .object "IgnoreRules$Matcher"
theorem n_IR : ∀ a, a < 6 → ∀ b, b < 6 → a ≠ b → (F_IR a).2.1 ≠ (F_IR b).2.1 := by decide +kernel
theorem t_IR_ok : ∀ k, k < 6 → parseFieldDescriptor (F_IR k).2.2.1 = some (t_IR k) := by decide +kernel
def F_RM : u_T := fun k => match k with
  | 0 => ("IgnoreRulesModel", "thrown", "I", false)
  | 1 => ("IgnoreRulesModel", "tape", "[I", true)
  | 2 => ("IgnoreRulesModel", "size", "I", false)
  | 3 => ("IgnoreRulesModel", "text", "[I", true)
  | 4 => ("IgnoreRulesModel", "from", "[I", true)
  | 5 => ("IgnoreRulesModel", "to", "[I", true)
  | 6 => ("IgnoreRulesModel", "bits", "[I", true)
  | 7 => ("IgnoreRulesModel", "lines", "[I", true)
  | 8 => ("IgnoreRulesModel", "rules", "I", false)
  | 9 => ("IgnoreRulesModel", "path", "[I", true)
  | 10 => ("IgnoreRulesModel", "nameFrom", "[I", true)
  | 11 => ("IgnoreRulesModel", "nameTo", "[I", true)
  | 12 => ("IgnoreRulesModel", "names", "I", false)
  | 13 => ("IgnoreRulesModel", "next", "I", false)
  | 14 => ("IgnoreRulesModel", "sort", "I", false)
  | 15 => ("IgnoreRulesModel", "reached", "[Z", true)
  | 16 => ("IgnoreRulesModel", "further", "[Z", true)
  | 17 => ("IgnoreRulesModel", "partFrom", "[I", true)
  | 18 => ("IgnoreRulesModel", "partTo", "[I", true)
  | 19 => ("IgnoreRulesModel", "parts", "I", false)
  | 20 => ("IgnoreRulesModel", "rest", "[Z", true)
  | 21 => ("IgnoreRulesModel", "before", "[I", true)
  | 22 => ("IgnoreRulesModel", "beforeSize", "I", false)
  | 23 => ("IgnoreRulesModel", "deciding", "I", false)
  | 24 => ("IgnoreRulesModel", "depth", "I", false)
  | _ => ("IgnoreRulesModel", "isOut", "Z", false)
def t_RM : Nat → FieldType := fun k => match k with
  | 0 => .int
  | 1 => .array .int
  | 2 => .int
  | 3 => .array .int
  | 4 => .array .int
  | 5 => .array .int
  | 6 => .array .int
  | 7 => .array .int
  | 8 => .int
  | 9 => .array .int
  | 10 => .array .int
  | 11 => .array .int
  | 12 => .int
  | 13 => .int
  | 14 => .int
  | 15 => .array .boolean
  | 16 => .array .boolean
  | 17 => .array .int
  | 18 => .array .int
  | 19 => .int
  | 20 => .array .boolean
  | 21 => .array .int
  | 22 => .int
  | 23 => .int
  | 24 => .int
  | _ => .boolean
theorem n_RM : ∀ a, a < 26 → ∀ b, b < 26 → a ≠ b → (F_RM a).2.1 ≠ (F_RM b).2.1 := by decide +kernel
theorem t_RM_ok : ∀ k, k < 26 → parseFieldDescriptor (F_RM k).2.2.1 = some (t_RM k) := by decide +kernel
abbrev ig_cl0 : List vw_C := [(R_RL, F_RL, 6), (R_PA, F_PA, 3), (R_MA, F_MA, 2), (R_IR, F_IR, 6), (R_RM, F_RM, 26)]
abbrev ciRL : Nat := 0
abbrev ciPA : Nat := 1
abbrev ciMA : Nat := 2
abbrev ciIR : Nat := 3
abbrev ciRM : Nat := 4
abbrev b_IR_init : ByteArray := prog_1_method_1_code
def y_IR_init : MethodName := ⟨"IgnoreRules", "<init>", "()V"⟩
abbrev b_IR_feed : ByteArray := prog_1_method_2_code
def y_IR_feed : MethodName := ⟨"IgnoreRules", "feed", "(IJ)I"⟩
abbrev b_IR_wipe : ByteArray := prog_1_method_3_code
def y_IR_wipe : MethodName := ⟨"IgnoreRules", "wipe", "()I"⟩
abbrev b_IR_read : ByteArray := prog_1_method_4_code
def y_IR_read : MethodName := ⟨"IgnoreRules", "read", "()I"⟩
abbrev b_IR_rule : ByteArray := prog_1_method_5_code
def y_IR_rule : MethodName := ⟨"IgnoreRules", "rule", "(II)I"⟩
abbrev b_IR_path : ByteArray := prog_1_method_6_code
def y_IR_path : MethodName := ⟨"IgnoreRules", "path", "()I"⟩
abbrev b_IR_fits : ByteArray := prog_1_method_7_code
def y_IR_fits : MethodName := ⟨"IgnoreRules", "fits", "(IZ)Z"⟩
abbrev b_IR_out : ByteArray := prog_1_method_8_code
def y_IR_out : MethodName := ⟨"IgnoreRules", "out", "(Z)Z"⟩
abbrev b_IR_by : ByteArray := prog_1_method_9_code
def y_IR_by : MethodName := ⟨"IgnoreRules", "by", "(Z)I"⟩
abbrev b_IR_depth : ByteArray := prog_1_method_10_code
def y_IR_depth : MethodName := ⟨"IgnoreRules", "depth", "(Z)I"⟩
abbrev b_IR_many : ByteArray := prog_1_method_11_code
def y_IR_many : MethodName := ⟨"IgnoreRules", "many", "(Z)I"⟩
abbrev b_IR_name : ByteArray := prog_1_method_12_code
def y_IR_name : MethodName := ⟨"IgnoreRules", "name", "(III)Z"⟩
abbrev b_IR_requireRule : ByteArray := prog_1_method_13_code
def y_IR_requireRule : MethodName := ⟨"IgnoreRules", "requireRule", "(I)V"⟩
abbrev b_IR_requirePath : ByteArray := prog_1_method_14_code
def y_IR_requirePath : MethodName := ⟨"IgnoreRules", "requirePath", "()V"⟩
abbrev b_IR_decidingDepth : ByteArray := prog_1_method_15_code
def y_IR_decidingDepth : MethodName := ⟨"IgnoreRules", "decidingDepth", "()I"⟩
abbrev b_IR_lastFitting : ByteArray := prog_1_method_16_code
def y_IR_lastFitting : MethodName := ⟨"IgnoreRules", "lastFitting", "(IZ)I"⟩
abbrev b_IR_leavesOut : ByteArray := prog_1_method_17_code
def y_IR_leavesOut : MethodName := ⟨"IgnoreRules", "leavesOut", "(I)Z"⟩
abbrev b_RM_init : ByteArray := prog_7_method_1_code
def y_RM_init : MethodName := ⟨"IgnoreRulesModel", "<init>", "()V"⟩
abbrev b_RM_thrown : ByteArray := prog_7_method_2_code
def y_RM_thrown : MethodName := ⟨"IgnoreRulesModel", "thrown", "()I"⟩
abbrev b_RM_feed : ByteArray := prog_7_method_3_code
def y_RM_feed : MethodName := ⟨"IgnoreRulesModel", "feed", "(IJ)I"⟩
abbrev b_RM_wipe : ByteArray := prog_7_method_4_code
def y_RM_wipe : MethodName := ⟨"IgnoreRulesModel", "wipe", "()I"⟩
abbrev b_RM_isBehindOdd : ByteArray := prog_7_method_5_code
def y_RM_isBehindOdd : MethodName := ⟨"IgnoreRulesModel", "isBehindOdd", "(II)Z"⟩
abbrev b_RM_has : ByteArray := prog_7_method_6_code
def y_RM_has : MethodName := ⟨"IgnoreRulesModel", "has", "(III)Z"⟩
abbrev b_RM_look : ByteArray := prog_7_method_7_code
def y_RM_look : MethodName := ⟨"IgnoreRulesModel", "look", "(II)V"⟩
abbrev b_RM_itemEnd : ByteArray := prog_7_method_8_code
def y_RM_itemEnd : MethodName := ⟨"IgnoreRulesModel", "itemEnd", "(I)I"⟩
abbrev b_RM_itemByte : ByteArray := prog_7_method_9_code
def y_RM_itemByte : MethodName := ⟨"IgnoreRulesModel", "itemByte", "(I)I"⟩
abbrev b_RM_itemsFrom : ByteArray := prog_7_method_10_code
def y_RM_itemsFrom : MethodName := ⟨"IgnoreRulesModel", "itemsFrom", "(II)I"⟩
abbrev b_RM_isRow : ByteArray := prog_7_method_11_code
def y_RM_isRow : MethodName := ⟨"IgnoreRulesModel", "isRow", "(II)Z"⟩
abbrev b_RM_setEnd : ByteArray := prog_7_method_12_code
def y_RM_setEnd : MethodName := ⟨"IgnoreRulesModel", "setEnd", "(II)I"⟩
abbrev b_RM_isInSet : ByteArray := prog_7_method_13_code
def y_RM_isInSet : MethodName := ⟨"IgnoreRulesModel", "isInSet", "(III)Z"⟩
abbrev b_RM_isVoidName : ByteArray := prog_7_method_14_code
def y_RM_isVoidName : MethodName := ⟨"IgnoreRulesModel", "isVoidName", "(II)Z"⟩
abbrev b_RM_findParts : ByteArray := prog_7_method_15_code
def y_RM_findParts : MethodName := ⟨"IgnoreRulesModel", "findParts", "(II)V"⟩
abbrev b_RM_what : ByteArray := prog_7_method_16_code
def y_RM_what : MethodName := ⟨"IgnoreRulesModel", "what", "(IIZZZ)I"⟩
abbrev b_RM_line : ByteArray := prog_7_method_17_code
def y_RM_line : MethodName := ⟨"IgnoreRulesModel", "line", "(III)V"⟩
abbrev b_RM_tryLines : ByteArray := prog_7_method_18_code
def y_RM_tryLines : MethodName := ⟨"IgnoreRulesModel", "tryLines", "()I"⟩
abbrev b_RM_swapText : ByteArray := prog_7_method_19_code
def y_RM_swapText : MethodName := ⟨"IgnoreRulesModel", "swapText", "(Z)V"⟩
abbrev b_RM_read : ByteArray := prog_7_method_20_code
def y_RM_read : MethodName := ⟨"IgnoreRulesModel", "read", "()I"⟩
abbrev b_RM_noRule : ByteArray := prog_7_method_21_code
def y_RM_noRule : MethodName := ⟨"IgnoreRulesModel", "noRule", "(I)Z"⟩
abbrev b_RM_rule : ByteArray := prog_7_method_22_code
def y_RM_rule : MethodName := ⟨"IgnoreRulesModel", "rule", "(II)I"⟩
abbrev b_RM_isPath : ByteArray := prog_7_method_23_code
def y_RM_isPath : MethodName := ⟨"IgnoreRulesModel", "isPath", "()Z"⟩
abbrev b_RM_path : ByteArray := prog_7_method_24_code
def y_RM_path : MethodName := ⟨"IgnoreRulesModel", "path", "()I"⟩
abbrev b_RM_pass : ByteArray := prog_7_method_25_code
def y_RM_pass : MethodName := ⟨"IgnoreRulesModel", "pass", "(II)V"⟩
abbrev b_RM_takes : ByteArray := prog_7_method_26_code
def y_RM_takes : MethodName := ⟨"IgnoreRulesModel", "takes", "(III)Z"⟩
abbrev b_RM_fitsName : ByteArray := prog_7_method_27_code
def y_RM_fitsName : MethodName := ⟨"IgnoreRulesModel", "fitsName", "(III)Z"⟩
abbrev b_RM_isDeep : ByteArray := prog_7_method_28_code
def y_RM_isDeep : MethodName := ⟨"IgnoreRulesModel", "isDeep", "(II)Z"⟩
abbrev b_RM_fitsBound : ByteArray := prog_7_method_29_code
def y_RM_fitsBound : MethodName := ⟨"IgnoreRulesModel", "fitsBound", "(II)Z"⟩
abbrev b_RM_fitsFirst : ByteArray := prog_7_method_30_code
def y_RM_fitsFirst : MethodName := ⟨"IgnoreRulesModel", "fitsFirst", "(IIZ)Z"⟩
abbrev b_RM_fits : ByteArray := prog_7_method_31_code
def y_RM_fits : MethodName := ⟨"IgnoreRulesModel", "fits", "(IZ)Z"⟩
abbrev b_RM_last : ByteArray := prog_7_method_32_code
def y_RM_last : MethodName := ⟨"IgnoreRulesModel", "last", "(IZ)I"⟩
abbrev b_RM_decide : ByteArray := prog_7_method_33_code
def y_RM_decide : MethodName := ⟨"IgnoreRulesModel", "decide", "(Z)V"⟩
abbrev b_RM_out : ByteArray := prog_7_method_34_code
def y_RM_out : MethodName := ⟨"IgnoreRulesModel", "out", "(Z)Z"⟩
abbrev b_RM_by : ByteArray := prog_7_method_35_code
def y_RM_by : MethodName := ⟨"IgnoreRulesModel", "by", "(Z)I"⟩
abbrev b_RM_depth : ByteArray := prog_7_method_36_code
def y_RM_depth : MethodName := ⟨"IgnoreRulesModel", "depth", "(Z)I"⟩
abbrev b_RM_many : ByteArray := prog_7_method_37_code
def y_RM_many : MethodName := ⟨"IgnoreRulesModel", "many", "(Z)I"⟩
abbrev b_RM_name : ByteArray := prog_7_method_38_code
def y_RM_name : MethodName := ⟨"IgnoreRulesModel", "name", "(III)Z"⟩
abbrev b_IT_areWhole : ByteArray := prog_2_method_2_code
def y_IT_areWhole : MethodName := ⟨"IgnoreRules$Items", "areWhole", "([CII)Z"⟩
abbrev b_IT_lastByte : ByteArray := prog_2_method_3_code
def y_IT_lastByte : MethodName := ⟨"IgnoreRules$Items", "lastByte", "([CII)I"⟩
abbrev b_IT_take : ByteArray := prog_2_method_4_code
def y_IT_take : MethodName := ⟨"IgnoreRules$Items", "take", "([CIIC)Z"⟩
abbrev b_MA_init : ByteArray := prog_3_method_1_code
def y_MA_init : MethodName := ⟨"IgnoreRules$Matcher", "<init>", "()V"⟩
abbrev b_MA_ruleFits : ByteArray := prog_3_method_2_code
def y_MA_ruleFits : MethodName := ⟨"IgnoreRules$Matcher", "ruleFits", "(LIgnoreRules$RuleList;ILIgnoreRules$Path;IZ)Z"⟩
abbrev b_MA_isDeep : ByteArray := prog_3_method_3_code
def y_MA_isDeep : MethodName := ⟨"IgnoreRules$Matcher", "isDeep", "([CII)Z"⟩
abbrev b_MA_takeName : ByteArray := prog_3_method_4_code
def y_MA_takeName : MethodName := ⟨"IgnoreRules$Matcher", "takeName", "([CIILIgnoreRules$Path;IZ)V"⟩
abbrev b_MA_nameFits : ByteArray := prog_3_method_5_code
def y_MA_nameFits : MethodName := ⟨"IgnoreRules$Matcher", "nameFits", "([CIILIgnoreRules$Path;I)Z"⟩
abbrev b_MA_startRow : ByteArray := prog_3_method_6_code
def y_MA_startRow : MethodName := ⟨"IgnoreRules$Matcher", "startRow", "([ZII)V"⟩
abbrev b_MA_spread : ByteArray := prog_3_method_7_code
def y_MA_spread : MethodName := ⟨"IgnoreRules$Matcher", "spread", "([ZI)V"⟩
abbrev b_PA_init : ByteArray := prog_4_method_1_code
def y_PA_init : MethodName := ⟨"IgnoreRules$Path", "<init>", "()V"⟩
abbrev b_PA_load : ByteArray := prog_4_method_2_code
def y_PA_load : MethodName := ⟨"IgnoreRules$Path", "load", "([CI)Z"⟩
abbrev b_PA_lengthOf : ByteArray := prog_4_method_3_code
def y_PA_lengthOf : MethodName := ⟨"IgnoreRules$Path", "lengthOf", "(I)I"⟩
abbrev b_RL_init : ByteArray := prog_5_method_1_code
def y_RL_init : MethodName := ⟨"IgnoreRules$RuleList", "<init>", "()V"⟩
abbrev b_RL_load : ByteArray := prog_5_method_2_code
def y_RL_load : MethodName := ⟨"IgnoreRules$RuleList", "load", "([CI)Z"⟩
abbrev b_RL_withoutBlanks : ByteArray := prog_5_method_3_code
def y_RL_withoutBlanks : MethodName := ⟨"IgnoreRules$RuleList", "withoutBlanks", "(II)I"⟩
abbrev b_RL_isEscaped : ByteArray := prog_5_method_4_code
def y_RL_isEscaped : MethodName := ⟨"IgnoreRules$RuleList", "isEscaped", "(II)Z"⟩
abbrev b_RL_add : ByteArray := prog_5_method_5_code
def y_RL_add : MethodName := ⟨"IgnoreRules$RuleList", "add", "(III)V"⟩
abbrev b_RL_hasVoidName : ByteArray := prog_5_method_6_code
def y_RL_hasVoidName : MethodName := ⟨"IgnoreRules$RuleList", "hasVoidName", "(II)Z"⟩
abbrev b_RL_endOfName : ByteArray := prog_5_method_7_code
def y_RL_endOfName : MethodName := ⟨"IgnoreRules$RuleList", "endOfName", "(II)I"⟩
abbrev b_RL_countNames : ByteArray := prog_5_method_8_code
def y_RL_countNames : MethodName := ⟨"IgnoreRules$RuleList", "countNames", "(I)I"⟩
abbrev b_RL_nameStart : ByteArray := prog_5_method_9_code
def y_RL_nameStart : MethodName := ⟨"IgnoreRules$RuleList", "nameStart", "(II)I"⟩
abbrev b_RL_nameEnd : ByteArray := prog_5_method_10_code
def y_RL_nameEnd : MethodName := ⟨"IgnoreRules$RuleList", "nameEnd", "(II)I"⟩
abbrev b_LW_feed : ByteArray := method_3_code
def y_LW_feed : MethodName := ⟨"IgnoreRulesLaw", "feed", "(LIgnoreRules;IJ[J)I"⟩
abbrev b_LW_rule : ByteArray := method_4_code
def y_LW_rule : MethodName := ⟨"IgnoreRulesLaw", "rule", "(LIgnoreRules;II[J)I"⟩
abbrev b_LW_fits : ByteArray := method_5_code
def y_LW_fits : MethodName := ⟨"IgnoreRulesLaw", "fits", "(LIgnoreRules;IZ[J)I"⟩
abbrev b_LW_out : ByteArray := method_6_code
def y_LW_out : MethodName := ⟨"IgnoreRulesLaw", "out", "(LIgnoreRules;Z[J)I"⟩
abbrev b_LW_by : ByteArray := method_7_code
def y_LW_by : MethodName := ⟨"IgnoreRulesLaw", "by", "(LIgnoreRules;Z[J)I"⟩
abbrev b_LW_depth : ByteArray := method_8_code
def y_LW_depth : MethodName := ⟨"IgnoreRulesLaw", "depth", "(LIgnoreRules;Z[J)I"⟩
abbrev b_LW_many : ByteArray := method_9_code
def y_LW_many : MethodName := ⟨"IgnoreRulesLaw", "many", "(LIgnoreRules;Z[J)I"⟩
abbrev b_LW_name : ByteArray := method_10_code
def y_LW_name : MethodName := ⟨"IgnoreRulesLaw", "name", "(LIgnoreRules;III[J)I"⟩
abbrev b_LW_law : ByteArray := code
def y_LW_law : MethodName := ⟨"IgnoreRulesLaw", "law", "([I)Z"⟩
def ig_T : List Cond := lw_tbl.filter goodWord
theorem ig_T_mem {w : Cond} (h : w ∈ tables_1) (hg : goodWord w = true) : w ∈ ig_T := List.mem_filter.mpr ⟨List.mem_append_right _ h, hg⟩
theorem in_RL : ∀ w ∈ u_ws R_RL F_RL 6, w ∈ ig_T := by decide +kernel
theorem in_PA : ∀ w ∈ u_ws R_PA F_PA 3, w ∈ ig_T := by decide +kernel
theorem in_MA : ∀ w ∈ u_ws R_MA F_MA 2, w ∈ ig_T := by decide +kernel
theorem in_IR : ∀ w ∈ u_ws R_IR F_IR 6, w ∈ ig_T := by decide +kernel
theorem in_RM : ∀ w ∈ u_ws R_RM F_RM 26, w ∈ ig_T := by decide +kernel
def ig_nf : List (String × Nat × String × String × String × String) := [("IgnoreRules$Matcher", 34, "IgnoreRules$RuleList", "text", "[C", "IgnoreRules"), ("IgnoreRules", 106, "IgnoreRules$RuleList", "text", "[C", "IgnoreRules"), ("IgnoreRules$Matcher", 28, "IgnoreRules$RuleList", "starts", "[I", "IgnoreRules"), ("IgnoreRules$Matcher", 31, "IgnoreRules$RuleList", "ends", "[I", "IgnoreRules"), ("IgnoreRules$Matcher", 18, "IgnoreRules$RuleList", "bits", "[I", "IgnoreRules"), ("IgnoreRules", 61, "IgnoreRules$RuleList", "bits", "[I", "IgnoreRules"), ("IgnoreRules", 69, "IgnoreRules$RuleList", "lines", "[I", "IgnoreRules"), ("IgnoreRules", 54, "IgnoreRules$RuleList", "count", "I", "IgnoreRules"), ("IgnoreRules$Matcher", 67, "IgnoreRules$Path", "bytes", "[C", "IgnoreRules"), ("IgnoreRules$Matcher", 54, "IgnoreRules$Path", "starts", "[I", "IgnoreRules"), ("IgnoreRules", 75, "IgnoreRules$Path", "count", "I", "IgnoreRules")]
def ig_nm : List (String × Nat × MethodName × String) := [("IgnoreRules", 15, y_RL_init, "IgnoreRules"), ("IgnoreRules", 25, y_PA_init, "IgnoreRules"), ("IgnoreRules", 32, y_MA_init, "IgnoreRules"), ("IgnoreRules", 50, y_RL_load, "IgnoreRules"), ("IgnoreRules$RuleList", 50, y_IT_areWhole, "IgnoreRules"), ("IgnoreRules", 74, y_PA_load, "IgnoreRules"), ("IgnoreRules", 65, y_RL_countNames, "IgnoreRules"), ("IgnoreRules", 79, y_MA_ruleFits, "IgnoreRules"), ("IgnoreRules$Matcher", 57, y_PA_lengthOf, "IgnoreRules"), ("IgnoreRules$Matcher", 61, y_IT_lastByte, "IgnoreRules"), ("IgnoreRules$Matcher", 70, y_IT_take, "IgnoreRules"), ("IgnoreRules", 102, y_RL_nameStart, "IgnoreRules"), ("IgnoreRules", 109, y_RL_nameEnd, "IgnoreRules"), ("IgnoreRules", 112, y_MA_nameFits, "IgnoreRules")]
theorem nf_0 : ("IgnoreRules$Matcher", 34, "IgnoreRules$RuleList", "text", "[C", "IgnoreRules") ∈ ig_nf := List.mem_of_getElem? (i := 0) rfl
theorem nf_1 : ("IgnoreRules", 106, "IgnoreRules$RuleList", "text", "[C", "IgnoreRules") ∈ ig_nf := List.mem_of_getElem? (i := 1) rfl
theorem nf_2 : ("IgnoreRules$Matcher", 28, "IgnoreRules$RuleList", "starts", "[I", "IgnoreRules") ∈ ig_nf := List.mem_of_getElem? (i := 2) rfl
theorem nf_3 : ("IgnoreRules$Matcher", 31, "IgnoreRules$RuleList", "ends", "[I", "IgnoreRules") ∈ ig_nf := List.mem_of_getElem? (i := 3) rfl
theorem nf_4 : ("IgnoreRules$Matcher", 18, "IgnoreRules$RuleList", "bits", "[I", "IgnoreRules") ∈ ig_nf := List.mem_of_getElem? (i := 4) rfl
theorem nf_5 : ("IgnoreRules", 61, "IgnoreRules$RuleList", "bits", "[I", "IgnoreRules") ∈ ig_nf := List.mem_of_getElem? (i := 5) rfl
theorem nf_6 : ("IgnoreRules", 69, "IgnoreRules$RuleList", "lines", "[I", "IgnoreRules") ∈ ig_nf := List.mem_of_getElem? (i := 6) rfl
theorem nf_7 : ("IgnoreRules", 54, "IgnoreRules$RuleList", "count", "I", "IgnoreRules") ∈ ig_nf := List.mem_of_getElem? (i := 7) rfl
theorem nf_8 : ("IgnoreRules$Matcher", 67, "IgnoreRules$Path", "bytes", "[C", "IgnoreRules") ∈ ig_nf := List.mem_of_getElem? (i := 8) rfl
theorem nf_9 : ("IgnoreRules$Matcher", 54, "IgnoreRules$Path", "starts", "[I", "IgnoreRules") ∈ ig_nf := List.mem_of_getElem? (i := 9) rfl
theorem nf_10 : ("IgnoreRules", 75, "IgnoreRules$Path", "count", "I", "IgnoreRules") ∈ ig_nf := List.mem_of_getElem? (i := 10) rfl
theorem nm_0 : ("IgnoreRules", 15, y_RL_init, "IgnoreRules") ∈ ig_nm := List.mem_of_getElem? (i := 0) rfl
theorem nm_1 : ("IgnoreRules", 25, y_PA_init, "IgnoreRules") ∈ ig_nm := List.mem_of_getElem? (i := 1) rfl
theorem nm_2 : ("IgnoreRules", 32, y_MA_init, "IgnoreRules") ∈ ig_nm := List.mem_of_getElem? (i := 2) rfl
theorem nm_3 : ("IgnoreRules", 50, y_RL_load, "IgnoreRules") ∈ ig_nm := List.mem_of_getElem? (i := 3) rfl
theorem nm_4 : ("IgnoreRules$RuleList", 50, y_IT_areWhole, "IgnoreRules") ∈ ig_nm := List.mem_of_getElem? (i := 4) rfl
theorem nm_5 : ("IgnoreRules", 74, y_PA_load, "IgnoreRules") ∈ ig_nm := List.mem_of_getElem? (i := 5) rfl
theorem nm_6 : ("IgnoreRules", 65, y_RL_countNames, "IgnoreRules") ∈ ig_nm := List.mem_of_getElem? (i := 6) rfl
theorem nm_7 : ("IgnoreRules", 79, y_MA_ruleFits, "IgnoreRules") ∈ ig_nm := List.mem_of_getElem? (i := 7) rfl
theorem nm_8 : ("IgnoreRules$Matcher", 57, y_PA_lengthOf, "IgnoreRules") ∈ ig_nm := List.mem_of_getElem? (i := 8) rfl
theorem nm_9 : ("IgnoreRules$Matcher", 61, y_IT_lastByte, "IgnoreRules") ∈ ig_nm := List.mem_of_getElem? (i := 9) rfl
theorem nm_10 : ("IgnoreRules$Matcher", 70, y_IT_take, "IgnoreRules") ∈ ig_nm := List.mem_of_getElem? (i := 10) rfl
theorem nm_11 : ("IgnoreRules", 102, y_RL_nameStart, "IgnoreRules") ∈ ig_nm := List.mem_of_getElem? (i := 11) rfl
theorem nm_12 : ("IgnoreRules", 109, y_RL_nameEnd, "IgnoreRules") ∈ ig_nm := List.mem_of_getElem? (i := 12) rfl
theorem nm_13 : ("IgnoreRules", 112, y_MA_nameFits, "IgnoreRules") ∈ ig_nm := List.mem_of_getElem? (i := 13) rfl
theorem ks_RL_load : Cond.selects y_RL_load.cls y_RL_load y_RL_load ∈ ig_T := List.mem_filter.mpr ⟨List.mem_append_left _ (List.mem_map.mpr ⟨(y_RL_load, 6), List.mem_append_left _ (List.mem_of_getElem? (i := 0) rfl), rfl⟩), rfl⟩
theorem ks_RL_withoutBlanks : Cond.selects y_RL_withoutBlanks.cls y_RL_withoutBlanks y_RL_withoutBlanks ∈ ig_T := List.mem_filter.mpr ⟨List.mem_append_left _ (List.mem_map.mpr ⟨(y_RL_withoutBlanks, 6), List.mem_append_left _ (List.mem_of_getElem? (i := 1) rfl), rfl⟩), rfl⟩
theorem ks_RL_isEscaped : Cond.selects y_RL_isEscaped.cls y_RL_isEscaped y_RL_isEscaped ∈ ig_T := List.mem_filter.mpr ⟨List.mem_append_left _ (List.mem_map.mpr ⟨(y_RL_isEscaped, 6), List.mem_append_left _ (List.mem_of_getElem? (i := 2) rfl), rfl⟩), rfl⟩
theorem ks_RL_add : Cond.selects y_RL_add.cls y_RL_add y_RL_add ∈ ig_T := List.mem_filter.mpr ⟨List.mem_append_left _ (List.mem_map.mpr ⟨(y_RL_add, 6), List.mem_append_left _ (List.mem_of_getElem? (i := 3) rfl), rfl⟩), rfl⟩
theorem ks_RL_endOfName : Cond.selects y_RL_endOfName.cls y_RL_endOfName y_RL_endOfName ∈ ig_T := List.mem_filter.mpr ⟨List.mem_append_left _ (List.mem_map.mpr ⟨(y_RL_endOfName, 6), List.mem_append_left _ (List.mem_of_getElem? (i := 4) rfl), rfl⟩), rfl⟩
theorem ks_RL_hasVoidName : Cond.selects y_RL_hasVoidName.cls y_RL_hasVoidName y_RL_hasVoidName ∈ ig_T := List.mem_filter.mpr ⟨List.mem_append_left _ (List.mem_map.mpr ⟨(y_RL_hasVoidName, 6), List.mem_append_left _ (List.mem_of_getElem? (i := 5) rfl), rfl⟩), rfl⟩
theorem ks_PA_load : Cond.selects y_PA_load.cls y_PA_load y_PA_load ∈ ig_T := List.mem_filter.mpr ⟨List.mem_append_left _ (List.mem_map.mpr ⟨(y_PA_load, 3), List.mem_append_left _ (List.mem_of_getElem? (i := 6) rfl), rfl⟩), rfl⟩
theorem ks_IR_requireRule : Cond.selects y_IR_requireRule.cls y_IR_requireRule y_IR_requireRule ∈ ig_T := List.mem_filter.mpr ⟨List.mem_append_left _ (List.mem_map.mpr ⟨(y_IR_requireRule, 6), List.mem_append_left _ (List.mem_of_getElem? (i := 8) rfl), rfl⟩), rfl⟩
theorem ks_RL_countNames : Cond.selects y_RL_countNames.cls y_RL_countNames y_RL_countNames ∈ ig_T := List.mem_filter.mpr ⟨List.mem_append_left _ (List.mem_map.mpr ⟨(y_RL_countNames, 6), List.mem_append_left _ (List.mem_of_getElem? (i := 9) rfl), rfl⟩), rfl⟩
theorem ks_IR_requirePath : Cond.selects y_IR_requirePath.cls y_IR_requirePath y_IR_requirePath ∈ ig_T := List.mem_filter.mpr ⟨List.mem_append_left _ (List.mem_map.mpr ⟨(y_IR_requirePath, 6), List.mem_append_left _ (List.mem_of_getElem? (i := 10) rfl), rfl⟩), rfl⟩
theorem ks_MA_ruleFits : Cond.selects y_MA_ruleFits.cls y_MA_ruleFits y_MA_ruleFits ∈ ig_T := List.mem_filter.mpr ⟨List.mem_append_left _ (List.mem_map.mpr ⟨(y_MA_ruleFits, 2), List.mem_append_left _ (List.mem_of_getElem? (i := 11) rfl), rfl⟩), rfl⟩
theorem ks_MA_takeName : Cond.selects y_MA_takeName.cls y_MA_takeName y_MA_takeName ∈ ig_T := List.mem_filter.mpr ⟨List.mem_append_left _ (List.mem_map.mpr ⟨(y_MA_takeName, 2), List.mem_append_left _ (List.mem_of_getElem? (i := 12) rfl), rfl⟩), rfl⟩
theorem ks_MA_nameFits : Cond.selects y_MA_nameFits.cls y_MA_nameFits y_MA_nameFits ∈ ig_T := List.mem_filter.mpr ⟨List.mem_append_left _ (List.mem_map.mpr ⟨(y_MA_nameFits, 2), List.mem_append_left _ (List.mem_of_getElem? (i := 13) rfl), rfl⟩), rfl⟩
theorem ks_PA_lengthOf : Cond.selects y_PA_lengthOf.cls y_PA_lengthOf y_PA_lengthOf ∈ ig_T := List.mem_filter.mpr ⟨List.mem_append_left _ (List.mem_map.mpr ⟨(y_PA_lengthOf, 3), List.mem_append_left _ (List.mem_of_getElem? (i := 14) rfl), rfl⟩), rfl⟩
theorem ks_IR_decidingDepth : Cond.selects y_IR_decidingDepth.cls y_IR_decidingDepth y_IR_decidingDepth ∈ ig_T := List.mem_filter.mpr ⟨List.mem_append_left _ (List.mem_map.mpr ⟨(y_IR_decidingDepth, 6), List.mem_append_left _ (List.mem_of_getElem? (i := 15) rfl), rfl⟩), rfl⟩
theorem ks_IR_lastFitting : Cond.selects y_IR_lastFitting.cls y_IR_lastFitting y_IR_lastFitting ∈ ig_T := List.mem_filter.mpr ⟨List.mem_append_left _ (List.mem_map.mpr ⟨(y_IR_lastFitting, 6), List.mem_append_right _ (List.mem_append_left _ (List.mem_of_getElem? (i := 0) rfl)), rfl⟩), rfl⟩
theorem ks_IR_leavesOut : Cond.selects y_IR_leavesOut.cls y_IR_leavesOut y_IR_leavesOut ∈ ig_T := List.mem_filter.mpr ⟨List.mem_append_left _ (List.mem_map.mpr ⟨(y_IR_leavesOut, 6), List.mem_append_right _ (List.mem_append_left _ (List.mem_of_getElem? (i := 1) rfl)), rfl⟩), rfl⟩
theorem ks_RL_nameStart : Cond.selects y_RL_nameStart.cls y_RL_nameStart y_RL_nameStart ∈ ig_T := List.mem_filter.mpr ⟨List.mem_append_left _ (List.mem_map.mpr ⟨(y_RL_nameStart, 6), List.mem_append_right _ (List.mem_append_left _ (List.mem_of_getElem? (i := 2) rfl)), rfl⟩), rfl⟩
theorem ks_RL_nameEnd : Cond.selects y_RL_nameEnd.cls y_RL_nameEnd y_RL_nameEnd ∈ ig_T := List.mem_filter.mpr ⟨List.mem_append_left _ (List.mem_map.mpr ⟨(y_RL_nameEnd, 6), List.mem_append_right _ (List.mem_append_left _ (List.mem_of_getElem? (i := 3) rfl)), rfl⟩), rfl⟩
theorem ks_RM_swapText : Cond.selects y_RM_swapText.cls y_RM_swapText y_RM_swapText ∈ ig_T := List.mem_filter.mpr ⟨List.mem_append_left _ (List.mem_map.mpr ⟨(y_RM_swapText, 26), List.mem_append_right _ (List.mem_append_left _ (List.mem_of_getElem? (i := 4) rfl)), rfl⟩), rfl⟩
theorem ks_RM_tryLines : Cond.selects y_RM_tryLines.cls y_RM_tryLines y_RM_tryLines ∈ ig_T := List.mem_filter.mpr ⟨List.mem_append_left _ (List.mem_map.mpr ⟨(y_RM_tryLines, 26), List.mem_append_right _ (List.mem_append_left _ (List.mem_of_getElem? (i := 5) rfl)), rfl⟩), rfl⟩
theorem ks_RM_line : Cond.selects y_RM_line.cls y_RM_line y_RM_line ∈ ig_T := List.mem_filter.mpr ⟨List.mem_append_left _ (List.mem_map.mpr ⟨(y_RM_line, 26), List.mem_append_right _ (List.mem_append_left _ (List.mem_of_getElem? (i := 6) rfl)), rfl⟩), rfl⟩
theorem ks_RM_isBehindOdd : Cond.selects y_RM_isBehindOdd.cls y_RM_isBehindOdd y_RM_isBehindOdd ∈ ig_T := List.mem_filter.mpr ⟨List.mem_append_left _ (List.mem_map.mpr ⟨(y_RM_isBehindOdd, 26), List.mem_append_right _ (List.mem_append_left _ (List.mem_of_getElem? (i := 7) rfl)), rfl⟩), rfl⟩
theorem ks_RM_has : Cond.selects y_RM_has.cls y_RM_has y_RM_has ∈ ig_T := List.mem_filter.mpr ⟨List.mem_append_left _ (List.mem_map.mpr ⟨(y_RM_has, 26), List.mem_append_right _ (List.mem_append_left _ (List.mem_of_getElem? (i := 8) rfl)), rfl⟩), rfl⟩
theorem ks_RM_what : Cond.selects y_RM_what.cls y_RM_what y_RM_what ∈ ig_T := List.mem_filter.mpr ⟨List.mem_append_left _ (List.mem_map.mpr ⟨(y_RM_what, 26), List.mem_append_right _ (List.mem_append_left _ (List.mem_of_getElem? (i := 9) rfl)), rfl⟩), rfl⟩
theorem ks_RM_findParts : Cond.selects y_RM_findParts.cls y_RM_findParts y_RM_findParts ∈ ig_T := List.mem_filter.mpr ⟨List.mem_append_left _ (List.mem_map.mpr ⟨(y_RM_findParts, 26), List.mem_append_right _ (List.mem_append_left _ (List.mem_of_getElem? (i := 10) rfl)), rfl⟩), rfl⟩
theorem ks_RM_isVoidName : Cond.selects y_RM_isVoidName.cls y_RM_isVoidName y_RM_isVoidName ∈ ig_T := List.mem_filter.mpr ⟨List.mem_append_left _ (List.mem_map.mpr ⟨(y_RM_isVoidName, 26), List.mem_append_right _ (List.mem_append_left _ (List.mem_of_getElem? (i := 11) rfl)), rfl⟩), rfl⟩
theorem ks_RM_look : Cond.selects y_RM_look.cls y_RM_look y_RM_look ∈ ig_T := List.mem_filter.mpr ⟨List.mem_append_left _ (List.mem_map.mpr ⟨(y_RM_look, 26), List.mem_append_right _ (List.mem_append_left _ (List.mem_of_getElem? (i := 12) rfl)), rfl⟩), rfl⟩
theorem ks_RM_setEnd : Cond.selects y_RM_setEnd.cls y_RM_setEnd y_RM_setEnd ∈ ig_T := List.mem_filter.mpr ⟨List.mem_append_left _ (List.mem_map.mpr ⟨(y_RM_setEnd, 26), List.mem_append_right _ (List.mem_append_left _ (List.mem_of_getElem? (i := 13) rfl)), rfl⟩), rfl⟩
theorem ks_RM_itemsFrom : Cond.selects y_RM_itemsFrom.cls y_RM_itemsFrom y_RM_itemsFrom ∈ ig_T := List.mem_filter.mpr ⟨List.mem_append_left _ (List.mem_map.mpr ⟨(y_RM_itemsFrom, 26), List.mem_append_right _ (List.mem_append_left _ (List.mem_of_getElem? (i := 14) rfl)), rfl⟩), rfl⟩
theorem ks_RM_itemEnd : Cond.selects y_RM_itemEnd.cls y_RM_itemEnd y_RM_itemEnd ∈ ig_T := List.mem_filter.mpr ⟨List.mem_append_left _ (List.mem_map.mpr ⟨(y_RM_itemEnd, 26), List.mem_append_right _ (List.mem_append_left _ (List.mem_of_getElem? (i := 15) rfl)), rfl⟩), rfl⟩
theorem ks_RM_isRow : Cond.selects y_RM_isRow.cls y_RM_isRow y_RM_isRow ∈ ig_T := List.mem_filter.mpr ⟨List.mem_append_left _ (List.mem_map.mpr ⟨(y_RM_isRow, 26), List.mem_append_right _ (List.mem_append_right _ (List.mem_of_getElem? (i := 0) rfl)), rfl⟩), rfl⟩
theorem ks_RM_noRule : Cond.selects y_RM_noRule.cls y_RM_noRule y_RM_noRule ∈ ig_T := List.mem_filter.mpr ⟨List.mem_append_left _ (List.mem_map.mpr ⟨(y_RM_noRule, 26), List.mem_append_right _ (List.mem_append_right _ (List.mem_of_getElem? (i := 1) rfl)), rfl⟩), rfl⟩
theorem ks_RM_isPath : Cond.selects y_RM_isPath.cls y_RM_isPath y_RM_isPath ∈ ig_T := List.mem_filter.mpr ⟨List.mem_append_left _ (List.mem_map.mpr ⟨(y_RM_isPath, 26), List.mem_append_right _ (List.mem_append_right _ (List.mem_of_getElem? (i := 2) rfl)), rfl⟩), rfl⟩
theorem ks_RM_fitsFirst : Cond.selects y_RM_fitsFirst.cls y_RM_fitsFirst y_RM_fitsFirst ∈ ig_T := List.mem_filter.mpr ⟨List.mem_append_left _ (List.mem_map.mpr ⟨(y_RM_fitsFirst, 26), List.mem_append_right _ (List.mem_append_right _ (List.mem_of_getElem? (i := 3) rfl)), rfl⟩), rfl⟩
theorem ks_RM_fitsBound : Cond.selects y_RM_fitsBound.cls y_RM_fitsBound y_RM_fitsBound ∈ ig_T := List.mem_filter.mpr ⟨List.mem_append_left _ (List.mem_map.mpr ⟨(y_RM_fitsBound, 26), List.mem_append_right _ (List.mem_append_right _ (List.mem_of_getElem? (i := 4) rfl)), rfl⟩), rfl⟩
theorem ks_RM_isDeep : Cond.selects y_RM_isDeep.cls y_RM_isDeep y_RM_isDeep ∈ ig_T := List.mem_filter.mpr ⟨List.mem_append_left _ (List.mem_map.mpr ⟨(y_RM_isDeep, 26), List.mem_append_right _ (List.mem_append_right _ (List.mem_of_getElem? (i := 5) rfl)), rfl⟩), rfl⟩
theorem ks_RM_fitsName : Cond.selects y_RM_fitsName.cls y_RM_fitsName y_RM_fitsName ∈ ig_T := List.mem_filter.mpr ⟨List.mem_append_left _ (List.mem_map.mpr ⟨(y_RM_fitsName, 26), List.mem_append_right _ (List.mem_append_right _ (List.mem_of_getElem? (i := 6) rfl)), rfl⟩), rfl⟩
theorem ks_RM_pass : Cond.selects y_RM_pass.cls y_RM_pass y_RM_pass ∈ ig_T := List.mem_filter.mpr ⟨List.mem_append_left _ (List.mem_map.mpr ⟨(y_RM_pass, 26), List.mem_append_right _ (List.mem_append_right _ (List.mem_of_getElem? (i := 7) rfl)), rfl⟩), rfl⟩
theorem ks_RM_takes : Cond.selects y_RM_takes.cls y_RM_takes y_RM_takes ∈ ig_T := List.mem_filter.mpr ⟨List.mem_append_left _ (List.mem_map.mpr ⟨(y_RM_takes, 26), List.mem_append_right _ (List.mem_append_right _ (List.mem_of_getElem? (i := 8) rfl)), rfl⟩), rfl⟩
theorem ks_RM_isInSet : Cond.selects y_RM_isInSet.cls y_RM_isInSet y_RM_isInSet ∈ ig_T := List.mem_filter.mpr ⟨List.mem_append_left _ (List.mem_map.mpr ⟨(y_RM_isInSet, 26), List.mem_append_right _ (List.mem_append_right _ (List.mem_of_getElem? (i := 9) rfl)), rfl⟩), rfl⟩
theorem ks_RM_itemByte : Cond.selects y_RM_itemByte.cls y_RM_itemByte y_RM_itemByte ∈ ig_T := List.mem_filter.mpr ⟨List.mem_append_left _ (List.mem_map.mpr ⟨(y_RM_itemByte, 26), List.mem_append_right _ (List.mem_append_right _ (List.mem_of_getElem? (i := 10) rfl)), rfl⟩), rfl⟩
theorem ks_RM_decide : Cond.selects y_RM_decide.cls y_RM_decide y_RM_decide ∈ ig_T := List.mem_filter.mpr ⟨List.mem_append_left _ (List.mem_map.mpr ⟨(y_RM_decide, 26), List.mem_append_right _ (List.mem_append_right _ (List.mem_of_getElem? (i := 11) rfl)), rfl⟩), rfl⟩
theorem ks_RM_last : Cond.selects y_RM_last.cls y_RM_last y_RM_last ∈ ig_T := List.mem_filter.mpr ⟨List.mem_append_left _ (List.mem_map.mpr ⟨(y_RM_last, 26), List.mem_append_right _ (List.mem_append_right _ (List.mem_of_getElem? (i := 12) rfl)), rfl⟩), rfl⟩
