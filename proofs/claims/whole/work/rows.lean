section
-- ===== PART A: goes FIRST, ahead of the names: the tables' words, and 'selects' of the private methods out of them =====
/-- a private method of a class that the tables say can be made, by its rows of tables_1 -/
def lw_okq (q : MethodName × Nat) : Prop := (q.1.cls ≠ "java/lang/invoke/MethodHandle" ∧ q.1.cls ≠ "java/lang/invoke/VarHandle") ∧ Cond.instantiable q.1.cls q.2 ∈ tables_1 ∧ Cond.privateMethod q.1 ∈ tables_1 ∧ Cond.instanceMethod q.1 ∈ tables_1
theorem lw_p0 : lw_okq (⟨"IgnoreRules$RuleList", "load", "([CI)Z"⟩, 6) := ⟨⟨by decide +kernel, by decide +kernel⟩, List.mem_of_getElem? (i := 22) (by decide +kernel), List.mem_of_getElem? (i := 117) (by decide +kernel), List.mem_of_getElem? (i := 118) (by decide +kernel)⟩
theorem lw_p1 : lw_okq (⟨"IgnoreRules$RuleList", "withoutBlanks", "(II)I"⟩, 6) := ⟨⟨by decide +kernel, by decide +kernel⟩, List.mem_of_getElem? (i := 22) (by decide +kernel), List.mem_of_getElem? (i := 121) (by decide +kernel), List.mem_of_getElem? (i := 122) (by decide +kernel)⟩
theorem lw_p2 : lw_okq (⟨"IgnoreRules$RuleList", "isEscaped", "(II)Z"⟩, 6) := ⟨⟨by decide +kernel, by decide +kernel⟩, List.mem_of_getElem? (i := 22) (by decide +kernel), List.mem_of_getElem? (i := 125) (by decide +kernel), List.mem_of_getElem? (i := 126) (by decide +kernel)⟩
theorem lw_p3 : lw_okq (⟨"IgnoreRules$RuleList", "add", "(III)V"⟩, 6) := ⟨⟨by decide +kernel, by decide +kernel⟩, List.mem_of_getElem? (i := 22) (by decide +kernel), List.mem_of_getElem? (i := 129) (by decide +kernel), List.mem_of_getElem? (i := 130) (by decide +kernel)⟩
theorem lw_p4 : lw_okq (⟨"IgnoreRules$RuleList", "endOfName", "(II)I"⟩, 6) := ⟨⟨by decide +kernel, by decide +kernel⟩, List.mem_of_getElem? (i := 22) (by decide +kernel), List.mem_of_getElem? (i := 133) (by decide +kernel), List.mem_of_getElem? (i := 134) (by decide +kernel)⟩
theorem lw_p5 : lw_okq (⟨"IgnoreRules$RuleList", "hasVoidName", "(II)Z"⟩, 6) := ⟨⟨by decide +kernel, by decide +kernel⟩, List.mem_of_getElem? (i := 22) (by decide +kernel), List.mem_of_getElem? (i := 137) (by decide +kernel), List.mem_of_getElem? (i := 138) (by decide +kernel)⟩
theorem lw_p6 : lw_okq (⟨"IgnoreRules$Path", "load", "([CI)Z"⟩, 3) := ⟨⟨by decide +kernel, by decide +kernel⟩, List.mem_of_getElem? (i := 57) (by decide +kernel), List.mem_of_getElem? (i := 151) (by decide +kernel), List.mem_of_getElem? (i := 152) (by decide +kernel)⟩
theorem lw_p7 : lw_okq (⟨"java/lang/Throwable", "fillInStackTrace", "(I)Ljava/lang/Throwable;"⟩, 6) := ⟨⟨by decide +kernel, by decide +kernel⟩, List.mem_of_getElem? (i := 201) (by decide +kernel), List.mem_of_getElem? (i := 199) (by decide +kernel), List.mem_of_getElem? (i := 200) (by decide +kernel)⟩
theorem lw_p8 : lw_okq (⟨"IgnoreRules", "requireRule", "(I)V"⟩, 6) := ⟨⟨by decide +kernel, by decide +kernel⟩, List.mem_of_getElem? (i := 14) (by decide +kernel), List.mem_of_getElem? (i := 240) (by decide +kernel), List.mem_of_getElem? (i := 241) (by decide +kernel)⟩
theorem lw_p9 : lw_okq (⟨"IgnoreRules$RuleList", "countNames", "(I)I"⟩, 6) := ⟨⟨by decide +kernel, by decide +kernel⟩, List.mem_of_getElem? (i := 22) (by decide +kernel), List.mem_of_getElem? (i := 260) (by decide +kernel), List.mem_of_getElem? (i := 261) (by decide +kernel)⟩
theorem lw_p10 : lw_okq (⟨"IgnoreRules", "requirePath", "()V"⟩, 6) := ⟨⟨by decide +kernel, by decide +kernel⟩, List.mem_of_getElem? (i := 14) (by decide +kernel), List.mem_of_getElem? (i := 273) (by decide +kernel), List.mem_of_getElem? (i := 274) (by decide +kernel)⟩
theorem lw_p11 : lw_okq (⟨"IgnoreRules$Matcher", "ruleFits", "(LIgnoreRules$RuleList;ILIgnoreRules$Path;IZ)Z"⟩, 2) := ⟨⟨by decide +kernel, by decide +kernel⟩, List.mem_of_getElem? (i := 76) (by decide +kernel), List.mem_of_getElem? (i := 293) (by decide +kernel), List.mem_of_getElem? (i := 294) (by decide +kernel)⟩
theorem lw_p12 : lw_okq (⟨"IgnoreRules$Matcher", "takeName", "([CIILIgnoreRules$Path;IZ)V"⟩, 2) := ⟨⟨by decide +kernel, by decide +kernel⟩, List.mem_of_getElem? (i := 76) (by decide +kernel), List.mem_of_getElem? (i := 306) (by decide +kernel), List.mem_of_getElem? (i := 307) (by decide +kernel)⟩
theorem lw_p13 : lw_okq (⟨"IgnoreRules$Matcher", "nameFits", "([CIILIgnoreRules$Path;I)Z"⟩, 2) := ⟨⟨by decide +kernel, by decide +kernel⟩, List.mem_of_getElem? (i := 76) (by decide +kernel), List.mem_of_getElem? (i := 310) (by decide +kernel), List.mem_of_getElem? (i := 311) (by decide +kernel)⟩
theorem lw_p14 : lw_okq (⟨"IgnoreRules$Path", "lengthOf", "(I)I"⟩, 3) := ⟨⟨by decide +kernel, by decide +kernel⟩, List.mem_of_getElem? (i := 57) (by decide +kernel), List.mem_of_getElem? (i := 314) (by decide +kernel), List.mem_of_getElem? (i := 315) (by decide +kernel)⟩
theorem lw_p15 : lw_okq (⟨"IgnoreRules", "decidingDepth", "()I"⟩, 6) := ⟨⟨by decide +kernel, by decide +kernel⟩, List.mem_of_getElem? (i := 14) (by decide +kernel), List.mem_of_getElem? (i := 329) (by decide +kernel), List.mem_of_getElem? (i := 330) (by decide +kernel)⟩
def lw_privs_1 : List (MethodName × Nat) := [(⟨"IgnoreRules$RuleList", "load", "([CI)Z"⟩, 6), (⟨"IgnoreRules$RuleList", "withoutBlanks", "(II)I"⟩, 6), (⟨"IgnoreRules$RuleList", "isEscaped", "(II)Z"⟩, 6), (⟨"IgnoreRules$RuleList", "add", "(III)V"⟩, 6), (⟨"IgnoreRules$RuleList", "endOfName", "(II)I"⟩, 6), (⟨"IgnoreRules$RuleList", "hasVoidName", "(II)Z"⟩, 6), (⟨"IgnoreRules$Path", "load", "([CI)Z"⟩, 3), (⟨"java/lang/Throwable", "fillInStackTrace", "(I)Ljava/lang/Throwable;"⟩, 6), (⟨"IgnoreRules", "requireRule", "(I)V"⟩, 6), (⟨"IgnoreRules$RuleList", "countNames", "(I)I"⟩, 6), (⟨"IgnoreRules", "requirePath", "()V"⟩, 6), (⟨"IgnoreRules$Matcher", "ruleFits", "(LIgnoreRules$RuleList;ILIgnoreRules$Path;IZ)Z"⟩, 2), (⟨"IgnoreRules$Matcher", "takeName", "([CIILIgnoreRules$Path;IZ)V"⟩, 2), (⟨"IgnoreRules$Matcher", "nameFits", "([CIILIgnoreRules$Path;I)Z"⟩, 2), (⟨"IgnoreRules$Path", "lengthOf", "(I)I"⟩, 3), (⟨"IgnoreRules", "decidingDepth", "()I"⟩, 6)]
theorem lw_r1 : ∀ q ∈ lw_privs_1, lw_okq q := List.forall_mem_cons.mpr ⟨lw_p0, List.forall_mem_cons.mpr ⟨lw_p1, List.forall_mem_cons.mpr ⟨lw_p2, List.forall_mem_cons.mpr ⟨lw_p3, List.forall_mem_cons.mpr ⟨lw_p4, List.forall_mem_cons.mpr ⟨lw_p5, List.forall_mem_cons.mpr ⟨lw_p6, List.forall_mem_cons.mpr ⟨lw_p7, List.forall_mem_cons.mpr ⟨lw_p8, List.forall_mem_cons.mpr ⟨lw_p9, List.forall_mem_cons.mpr ⟨lw_p10, List.forall_mem_cons.mpr ⟨lw_p11, List.forall_mem_cons.mpr ⟨lw_p12, List.forall_mem_cons.mpr ⟨lw_p13, List.forall_mem_cons.mpr ⟨lw_p14, List.forall_mem_cons.mpr ⟨lw_p15, fun _ h => absurd h List.not_mem_nil⟩⟩⟩⟩⟩⟩⟩⟩⟩⟩⟩⟩⟩⟩⟩⟩
theorem lw_p16 : lw_okq (⟨"IgnoreRules", "lastFitting", "(IZ)I"⟩, 6) := ⟨⟨by decide +kernel, by decide +kernel⟩, List.mem_of_getElem? (i := 14) (by decide +kernel), List.mem_of_getElem? (i := 333) (by decide +kernel), List.mem_of_getElem? (i := 334) (by decide +kernel)⟩
theorem lw_p17 : lw_okq (⟨"IgnoreRules", "leavesOut", "(I)Z"⟩, 6) := ⟨⟨by decide +kernel, by decide +kernel⟩, List.mem_of_getElem? (i := 14) (by decide +kernel), List.mem_of_getElem? (i := 337) (by decide +kernel), List.mem_of_getElem? (i := 338) (by decide +kernel)⟩
theorem lw_p18 : lw_okq (⟨"IgnoreRules$RuleList", "nameStart", "(II)I"⟩, 6) := ⟨⟨by decide +kernel, by decide +kernel⟩, List.mem_of_getElem? (i := 22) (by decide +kernel), List.mem_of_getElem? (i := 371) (by decide +kernel), List.mem_of_getElem? (i := 372) (by decide +kernel)⟩
theorem lw_p19 : lw_okq (⟨"IgnoreRules$RuleList", "nameEnd", "(II)I"⟩, 6) := ⟨⟨by decide +kernel, by decide +kernel⟩, List.mem_of_getElem? (i := 22) (by decide +kernel), List.mem_of_getElem? (i := 375) (by decide +kernel), List.mem_of_getElem? (i := 376) (by decide +kernel)⟩
theorem lw_p20 : lw_okq (⟨"IgnoreRulesModel", "swapText", "(Z)V"⟩, 26) := ⟨⟨by decide +kernel, by decide +kernel⟩, List.mem_of_getElem? (i := 380) (by decide +kernel), List.mem_of_getElem? (i := 482) (by decide +kernel), List.mem_of_getElem? (i := 483) (by decide +kernel)⟩
theorem lw_p21 : lw_okq (⟨"IgnoreRulesModel", "tryLines", "()I"⟩, 26) := ⟨⟨by decide +kernel, by decide +kernel⟩, List.mem_of_getElem? (i := 380) (by decide +kernel), List.mem_of_getElem? (i := 486) (by decide +kernel), List.mem_of_getElem? (i := 487) (by decide +kernel)⟩
theorem lw_p22 : lw_okq (⟨"IgnoreRulesModel", "line", "(III)V"⟩, 26) := ⟨⟨by decide +kernel, by decide +kernel⟩, List.mem_of_getElem? (i := 380) (by decide +kernel), List.mem_of_getElem? (i := 490) (by decide +kernel), List.mem_of_getElem? (i := 491) (by decide +kernel)⟩
theorem lw_p23 : lw_okq (⟨"IgnoreRulesModel", "isBehindOdd", "(II)Z"⟩, 26) := ⟨⟨by decide +kernel, by decide +kernel⟩, List.mem_of_getElem? (i := 380) (by decide +kernel), List.mem_of_getElem? (i := 494) (by decide +kernel), List.mem_of_getElem? (i := 495) (by decide +kernel)⟩
theorem lw_p24 : lw_okq (⟨"IgnoreRulesModel", "has", "(III)Z"⟩, 26) := ⟨⟨by decide +kernel, by decide +kernel⟩, List.mem_of_getElem? (i := 380) (by decide +kernel), List.mem_of_getElem? (i := 498) (by decide +kernel), List.mem_of_getElem? (i := 499) (by decide +kernel)⟩
theorem lw_p25 : lw_okq (⟨"IgnoreRulesModel", "what", "(IIZZZ)I"⟩, 26) := ⟨⟨by decide +kernel, by decide +kernel⟩, List.mem_of_getElem? (i := 380) (by decide +kernel), List.mem_of_getElem? (i := 502) (by decide +kernel), List.mem_of_getElem? (i := 503) (by decide +kernel)⟩
theorem lw_p26 : lw_okq (⟨"IgnoreRulesModel", "findParts", "(II)V"⟩, 26) := ⟨⟨by decide +kernel, by decide +kernel⟩, List.mem_of_getElem? (i := 380) (by decide +kernel), List.mem_of_getElem? (i := 506) (by decide +kernel), List.mem_of_getElem? (i := 507) (by decide +kernel)⟩
theorem lw_p27 : lw_okq (⟨"IgnoreRulesModel", "isVoidName", "(II)Z"⟩, 26) := ⟨⟨by decide +kernel, by decide +kernel⟩, List.mem_of_getElem? (i := 380) (by decide +kernel), List.mem_of_getElem? (i := 510) (by decide +kernel), List.mem_of_getElem? (i := 511) (by decide +kernel)⟩
theorem lw_p28 : lw_okq (⟨"IgnoreRulesModel", "look", "(II)V"⟩, 26) := ⟨⟨by decide +kernel, by decide +kernel⟩, List.mem_of_getElem? (i := 380) (by decide +kernel), List.mem_of_getElem? (i := 514) (by decide +kernel), List.mem_of_getElem? (i := 515) (by decide +kernel)⟩
theorem lw_p29 : lw_okq (⟨"IgnoreRulesModel", "setEnd", "(II)I"⟩, 26) := ⟨⟨by decide +kernel, by decide +kernel⟩, List.mem_of_getElem? (i := 380) (by decide +kernel), List.mem_of_getElem? (i := 518) (by decide +kernel), List.mem_of_getElem? (i := 519) (by decide +kernel)⟩
theorem lw_p30 : lw_okq (⟨"IgnoreRulesModel", "itemsFrom", "(II)I"⟩, 26) := ⟨⟨by decide +kernel, by decide +kernel⟩, List.mem_of_getElem? (i := 380) (by decide +kernel), List.mem_of_getElem? (i := 522) (by decide +kernel), List.mem_of_getElem? (i := 523) (by decide +kernel)⟩
theorem lw_p31 : lw_okq (⟨"IgnoreRulesModel", "itemEnd", "(I)I"⟩, 26) := ⟨⟨by decide +kernel, by decide +kernel⟩, List.mem_of_getElem? (i := 380) (by decide +kernel), List.mem_of_getElem? (i := 526) (by decide +kernel), List.mem_of_getElem? (i := 527) (by decide +kernel)⟩
def lw_privs_2 : List (MethodName × Nat) := [(⟨"IgnoreRules", "lastFitting", "(IZ)I"⟩, 6), (⟨"IgnoreRules", "leavesOut", "(I)Z"⟩, 6), (⟨"IgnoreRules$RuleList", "nameStart", "(II)I"⟩, 6), (⟨"IgnoreRules$RuleList", "nameEnd", "(II)I"⟩, 6), (⟨"IgnoreRulesModel", "swapText", "(Z)V"⟩, 26), (⟨"IgnoreRulesModel", "tryLines", "()I"⟩, 26), (⟨"IgnoreRulesModel", "line", "(III)V"⟩, 26), (⟨"IgnoreRulesModel", "isBehindOdd", "(II)Z"⟩, 26), (⟨"IgnoreRulesModel", "has", "(III)Z"⟩, 26), (⟨"IgnoreRulesModel", "what", "(IIZZZ)I"⟩, 26), (⟨"IgnoreRulesModel", "findParts", "(II)V"⟩, 26), (⟨"IgnoreRulesModel", "isVoidName", "(II)Z"⟩, 26), (⟨"IgnoreRulesModel", "look", "(II)V"⟩, 26), (⟨"IgnoreRulesModel", "setEnd", "(II)I"⟩, 26), (⟨"IgnoreRulesModel", "itemsFrom", "(II)I"⟩, 26), (⟨"IgnoreRulesModel", "itemEnd", "(I)I"⟩, 26)]
theorem lw_r2 : ∀ q ∈ lw_privs_2, lw_okq q := List.forall_mem_cons.mpr ⟨lw_p16, List.forall_mem_cons.mpr ⟨lw_p17, List.forall_mem_cons.mpr ⟨lw_p18, List.forall_mem_cons.mpr ⟨lw_p19, List.forall_mem_cons.mpr ⟨lw_p20, List.forall_mem_cons.mpr ⟨lw_p21, List.forall_mem_cons.mpr ⟨lw_p22, List.forall_mem_cons.mpr ⟨lw_p23, List.forall_mem_cons.mpr ⟨lw_p24, List.forall_mem_cons.mpr ⟨lw_p25, List.forall_mem_cons.mpr ⟨lw_p26, List.forall_mem_cons.mpr ⟨lw_p27, List.forall_mem_cons.mpr ⟨lw_p28, List.forall_mem_cons.mpr ⟨lw_p29, List.forall_mem_cons.mpr ⟨lw_p30, List.forall_mem_cons.mpr ⟨lw_p31, fun _ h => absurd h List.not_mem_nil⟩⟩⟩⟩⟩⟩⟩⟩⟩⟩⟩⟩⟩⟩⟩⟩
theorem lw_p32 : lw_okq (⟨"IgnoreRulesModel", "isRow", "(II)Z"⟩, 26) := ⟨⟨by decide +kernel, by decide +kernel⟩, List.mem_of_getElem? (i := 380) (by decide +kernel), List.mem_of_getElem? (i := 530) (by decide +kernel), List.mem_of_getElem? (i := 531) (by decide +kernel)⟩
theorem lw_p33 : lw_okq (⟨"IgnoreRulesModel", "noRule", "(I)Z"⟩, 26) := ⟨⟨by decide +kernel, by decide +kernel⟩, List.mem_of_getElem? (i := 380) (by decide +kernel), List.mem_of_getElem? (i := 538) (by decide +kernel), List.mem_of_getElem? (i := 539) (by decide +kernel)⟩
theorem lw_p34 : lw_okq (⟨"IgnoreRulesModel", "isPath", "()Z"⟩, 26) := ⟨⟨by decide +kernel, by decide +kernel⟩, List.mem_of_getElem? (i := 380) (by decide +kernel), List.mem_of_getElem? (i := 546) (by decide +kernel), List.mem_of_getElem? (i := 547) (by decide +kernel)⟩
theorem lw_p35 : lw_okq (⟨"IgnoreRulesModel", "fitsFirst", "(IIZ)Z"⟩, 26) := ⟨⟨by decide +kernel, by decide +kernel⟩, List.mem_of_getElem? (i := 380) (by decide +kernel), List.mem_of_getElem? (i := 554) (by decide +kernel), List.mem_of_getElem? (i := 555) (by decide +kernel)⟩
theorem lw_p36 : lw_okq (⟨"IgnoreRulesModel", "fitsBound", "(II)Z"⟩, 26) := ⟨⟨by decide +kernel, by decide +kernel⟩, List.mem_of_getElem? (i := 380) (by decide +kernel), List.mem_of_getElem? (i := 558) (by decide +kernel), List.mem_of_getElem? (i := 559) (by decide +kernel)⟩
theorem lw_p37 : lw_okq (⟨"IgnoreRulesModel", "isDeep", "(II)Z"⟩, 26) := ⟨⟨by decide +kernel, by decide +kernel⟩, List.mem_of_getElem? (i := 380) (by decide +kernel), List.mem_of_getElem? (i := 562) (by decide +kernel), List.mem_of_getElem? (i := 563) (by decide +kernel)⟩
theorem lw_p38 : lw_okq (⟨"IgnoreRulesModel", "fitsName", "(III)Z"⟩, 26) := ⟨⟨by decide +kernel, by decide +kernel⟩, List.mem_of_getElem? (i := 380) (by decide +kernel), List.mem_of_getElem? (i := 566) (by decide +kernel), List.mem_of_getElem? (i := 567) (by decide +kernel)⟩
theorem lw_p39 : lw_okq (⟨"IgnoreRulesModel", "pass", "(II)V"⟩, 26) := ⟨⟨by decide +kernel, by decide +kernel⟩, List.mem_of_getElem? (i := 380) (by decide +kernel), List.mem_of_getElem? (i := 570) (by decide +kernel), List.mem_of_getElem? (i := 571) (by decide +kernel)⟩
theorem lw_p40 : lw_okq (⟨"IgnoreRulesModel", "takes", "(III)Z"⟩, 26) := ⟨⟨by decide +kernel, by decide +kernel⟩, List.mem_of_getElem? (i := 380) (by decide +kernel), List.mem_of_getElem? (i := 574) (by decide +kernel), List.mem_of_getElem? (i := 575) (by decide +kernel)⟩
theorem lw_p41 : lw_okq (⟨"IgnoreRulesModel", "isInSet", "(III)Z"⟩, 26) := ⟨⟨by decide +kernel, by decide +kernel⟩, List.mem_of_getElem? (i := 380) (by decide +kernel), List.mem_of_getElem? (i := 578) (by decide +kernel), List.mem_of_getElem? (i := 579) (by decide +kernel)⟩
theorem lw_p42 : lw_okq (⟨"IgnoreRulesModel", "itemByte", "(I)I"⟩, 26) := ⟨⟨by decide +kernel, by decide +kernel⟩, List.mem_of_getElem? (i := 380) (by decide +kernel), List.mem_of_getElem? (i := 582) (by decide +kernel), List.mem_of_getElem? (i := 583) (by decide +kernel)⟩
theorem lw_p43 : lw_okq (⟨"IgnoreRulesModel", "decide", "(Z)V"⟩, 26) := ⟨⟨by decide +kernel, by decide +kernel⟩, List.mem_of_getElem? (i := 380) (by decide +kernel), List.mem_of_getElem? (i := 590) (by decide +kernel), List.mem_of_getElem? (i := 591) (by decide +kernel)⟩
theorem lw_p44 : lw_okq (⟨"IgnoreRulesModel", "last", "(IZ)I"⟩, 26) := ⟨⟨by decide +kernel, by decide +kernel⟩, List.mem_of_getElem? (i := 380) (by decide +kernel), List.mem_of_getElem? (i := 594) (by decide +kernel), List.mem_of_getElem? (i := 595) (by decide +kernel)⟩
def lw_privs_3 : List (MethodName × Nat) := [(⟨"IgnoreRulesModel", "isRow", "(II)Z"⟩, 26), (⟨"IgnoreRulesModel", "noRule", "(I)Z"⟩, 26), (⟨"IgnoreRulesModel", "isPath", "()Z"⟩, 26), (⟨"IgnoreRulesModel", "fitsFirst", "(IIZ)Z"⟩, 26), (⟨"IgnoreRulesModel", "fitsBound", "(II)Z"⟩, 26), (⟨"IgnoreRulesModel", "isDeep", "(II)Z"⟩, 26), (⟨"IgnoreRulesModel", "fitsName", "(III)Z"⟩, 26), (⟨"IgnoreRulesModel", "pass", "(II)V"⟩, 26), (⟨"IgnoreRulesModel", "takes", "(III)Z"⟩, 26), (⟨"IgnoreRulesModel", "isInSet", "(III)Z"⟩, 26), (⟨"IgnoreRulesModel", "itemByte", "(I)I"⟩, 26), (⟨"IgnoreRulesModel", "decide", "(Z)V"⟩, 26), (⟨"IgnoreRulesModel", "last", "(IZ)I"⟩, 26)]
theorem lw_r3 : ∀ q ∈ lw_privs_3, lw_okq q := List.forall_mem_cons.mpr ⟨lw_p32, List.forall_mem_cons.mpr ⟨lw_p33, List.forall_mem_cons.mpr ⟨lw_p34, List.forall_mem_cons.mpr ⟨lw_p35, List.forall_mem_cons.mpr ⟨lw_p36, List.forall_mem_cons.mpr ⟨lw_p37, List.forall_mem_cons.mpr ⟨lw_p38, List.forall_mem_cons.mpr ⟨lw_p39, List.forall_mem_cons.mpr ⟨lw_p40, List.forall_mem_cons.mpr ⟨lw_p41, List.forall_mem_cons.mpr ⟨lw_p42, List.forall_mem_cons.mpr ⟨lw_p43, List.forall_mem_cons.mpr ⟨lw_p44, fun _ h => absurd h List.not_mem_nil⟩⟩⟩⟩⟩⟩⟩⟩⟩⟩⟩⟩⟩
def lw_privs : List (MethodName × Nat) := lw_privs_1 ++ (lw_privs_2 ++ (lw_privs_3))
def lw_tbl : List Cond := k2_sels lw_privs ++ tables_1
theorem lw_privs_ok : ∀ q ∈ lw_privs, lw_okq q := by
  show ∀ q ∈ lw_privs_1 ++ (lw_privs_2 ++ (lw_privs_3)), lw_okq q
  exact List.forall_mem_append.mpr ⟨lw_r1, List.forall_mem_append.mpr ⟨lw_r2, lw_r3⟩⟩
-- ===== names: by program out of the listing =====
def R_RL : String := "IgnoreRules$RuleList"
def R_PA : String := "IgnoreRules$Path"
def R_MA : String := "IgnoreRules$Matcher"
def R_IR : String := "IgnoreRules"
def R_RM : String := "IgnoreRulesModel"
def R_IT : String := "IgnoreRules$Items"
def R_LW : String := "IgnoreRulesLaw"
def F_RL : u_T := fun k => match k with
  | 0 => ("IgnoreRules$RuleList", "text", "[C", true)
  | 1 => ("IgnoreRules$RuleList", "starts", "[I", true)
  | 2 => ("IgnoreRules$RuleList", "ends", "[I", true)
  | 3 => ("IgnoreRules$RuleList", "bits", "[I", true)
  | 4 => ("IgnoreRules$RuleList", "lines", "[I", true)
  | _ => ("IgnoreRules$RuleList", "count", "I", false)
def t_RL : Nat → FieldType := fun k => match k with
  | 0 => .array .char
  | 1 => .array .int
  | 2 => .array .int
  | 3 => .array .int
  | 4 => .array .int
  | _ => .int
theorem n_RL : ∀ a, a < 6 → ∀ b, b < 6 → a ≠ b → (F_RL a).2.1 ≠ (F_RL b).2.1 := by decide +kernel
theorem t_RL_ok : ∀ k, k < 6 → parseFieldDescriptor (F_RL k).2.2.1 = some (t_RL k) := by decide +kernel
def F_PA : u_T := fun k => match k with
  | 0 => ("IgnoreRules$Path", "bytes", "[C", true)
  | 1 => ("IgnoreRules$Path", "starts", "[I", true)
  | _ => ("IgnoreRules$Path", "count", "I", false)
def t_PA : Nat → FieldType := fun k => match k with
  | 0 => .array .char
  | 1 => .array .int
  | _ => .int
theorem n_PA : ∀ a, a < 3 → ∀ b, b < 3 → a ≠ b → (F_PA a).2.1 ≠ (F_PA b).2.1 := by decide +kernel
theorem t_PA_ok : ∀ k, k < 3 → parseFieldDescriptor (F_PA k).2.2.1 = some (t_PA k) := by decide +kernel
def F_MA : u_T := fun k => match k with
  | 0 => ("IgnoreRules$Matcher", "namesTaken", "[Z", true)
  | _ => ("IgnoreRules$Matcher", "bytesTaken", "[Z", true)
def t_MA : Nat → FieldType := fun k => match k with
  | 0 => .array .boolean
  | _ => .array .boolean
theorem n_MA : ∀ a, a < 2 → ∀ b, b < 2 → a ≠ b → (F_MA a).2.1 ≠ (F_MA b).2.1 := by decide +kernel
theorem t_MA_ok : ∀ k, k < 2 → parseFieldDescriptor (F_MA k).2.2.1 = some (t_MA k) := by decide +kernel
def F_IR : u_T := fun k => match k with
  | 0 => ("IgnoreRules", "tape", "[C", true)
  | 1 => ("IgnoreRules", "tapeLength", "I", false)
  | 2 => ("IgnoreRules", "rules", "LIgnoreRules$RuleList;", false)
  | 3 => ("IgnoreRules", "spare", "LIgnoreRules$RuleList;", false)
  | 4 => ("IgnoreRules", "current", "LIgnoreRules$Path;", true)
  | _ => ("IgnoreRules", "matcher", "LIgnoreRules$Matcher;", true)
def t_IR : Nat → FieldType := fun k => match k with
  | 0 => .array .char
  | 1 => .int
  | 2 => .object "IgnoreRules$RuleList"
  | 3 => .object "IgnoreRules$RuleList"
  | 4 => .object "IgnoreRules$Path"
  | _ => .object "IgnoreRules$Matcher"
theorem n_IR : ∀ a, a < 6 → ∀ b, b < 6 → a ≠ b → (F_IR a).2.1 ≠ (F_IR b).2.1 := by decide +kernel
theorem t_IR_ok : ∀ k, k < 6 → parseFieldDescriptor (F_IR k).2.2.1 = some (t_IR k) := by decide +kernel
def F_RM : u_T := fun k => match k with
  | 0 => ("IgnoreRulesModel", "thrown", "I", false)
  | 1 => ("IgnoreRulesModel", "tape", "[I", true)
  | 2 => ("IgnoreRulesModel", "size", "I", false)
  | 3 => ("IgnoreRulesModel", "text", "[I", true)
  | 4 => ("IgnoreRulesModel", "from", "[I", true)
  | 5 => ("IgnoreRulesModel", "to", "[I", true)
  | 6 => ("IgnoreRulesModel", "bits", "[I", true)
  | 7 => ("IgnoreRulesModel", "lines", "[I", true)
  | 8 => ("IgnoreRulesModel", "rules", "I", false)
  | 9 => ("IgnoreRulesModel", "path", "[I", true)
  | 10 => ("IgnoreRulesModel", "nameFrom", "[I", true)
  | 11 => ("IgnoreRulesModel", "nameTo", "[I", true)
  | 12 => ("IgnoreRulesModel", "names", "I", false)
  | 13 => ("IgnoreRulesModel", "next", "I", false)
  | 14 => ("IgnoreRulesModel", "sort", "I", false)
  | 15 => ("IgnoreRulesModel", "reached", "[Z", true)
  | 16 => ("IgnoreRulesModel", "further", "[Z", true)
  | 17 => ("IgnoreRulesModel", "partFrom", "[I", true)
  | 18 => ("IgnoreRulesModel", "partTo", "[I", true)
  | 19 => ("IgnoreRulesModel", "parts", "I", false)
  | 20 => ("IgnoreRulesModel", "rest", "[Z", true)
  | 21 => ("IgnoreRulesModel", "before", "[I", true)
  | 22 => ("IgnoreRulesModel", "beforeSize", "I", false)
  | 23 => ("IgnoreRulesModel", "deciding", "I", false)
  | 24 => ("IgnoreRulesModel", "depth", "I", false)
  | _ => ("IgnoreRulesModel", "isOut", "Z", false)
def t_RM : Nat → FieldType := fun k => match k with
  | 0 => .int
  | 1 => .array .int
  | 2 => .int
  | 3 => .array .int
  | 4 => .array .int
  | 5 => .array .int
  | 6 => .array .int
  | 7 => .array .int
  | 8 => .int
  | 9 => .array .int
  | 10 => .array .int
  | 11 => .array .int
  | 12 => .int
  | 13 => .int
  | 14 => .int
  | 15 => .array .boolean
  | 16 => .array .boolean
  | 17 => .array .int
  | 18 => .array .int
  | 19 => .int
  | 20 => .array .boolean
  | 21 => .array .int
  | 22 => .int
  | 23 => .int
  | 24 => .int
  | _ => .boolean
theorem n_RM : ∀ a, a < 26 → ∀ b, b < 26 → a ≠ b → (F_RM a).2.1 ≠ (F_RM b).2.1 := by decide +kernel
theorem t_RM_ok : ∀ k, k < 26 → parseFieldDescriptor (F_RM k).2.2.1 = some (t_RM k) := by decide +kernel
abbrev ig_cl0 : List vw_C := [(R_RL, F_RL, 6), (R_PA, F_PA, 3), (R_MA, F_MA, 2), (R_IR, F_IR, 6), (R_RM, F_RM, 26)]
abbrev ciRL : Nat := 0
abbrev ciPA : Nat := 1
abbrev ciMA : Nat := 2
abbrev ciIR : Nat := 3
abbrev ciRM : Nat := 4
abbrev b_IR_init : ByteArray := prog_1_method_1_code
def y_IR_init : MethodName := ⟨"IgnoreRules", "<init>", "()V"⟩
abbrev b_IR_feed : ByteArray := prog_1_method_2_code
def y_IR_feed : MethodName := ⟨"IgnoreRules", "feed", "(IJ)I"⟩
abbrev b_IR_wipe : ByteArray := prog_1_method_3_code
def y_IR_wipe : MethodName := ⟨"IgnoreRules", "wipe", "()I"⟩
abbrev b_IR_read : ByteArray := prog_1_method_4_code
def y_IR_read : MethodName := ⟨"IgnoreRules", "read", "()I"⟩
abbrev b_IR_rule : ByteArray := prog_1_method_5_code
def y_IR_rule : MethodName := ⟨"IgnoreRules", "rule", "(II)I"⟩
abbrev b_IR_path : ByteArray := prog_1_method_6_code
def y_IR_path : MethodName := ⟨"IgnoreRules", "path", "()I"⟩
abbrev b_IR_fits : ByteArray := prog_1_method_7_code
def y_IR_fits : MethodName := ⟨"IgnoreRules", "fits", "(IZ)Z"⟩
abbrev b_IR_out : ByteArray := prog_1_method_8_code
def y_IR_out : MethodName := ⟨"IgnoreRules", "out", "(Z)Z"⟩
abbrev b_IR_by : ByteArray := prog_1_method_9_code
def y_IR_by : MethodName := ⟨"IgnoreRules", "by", "(Z)I"⟩
abbrev b_IR_depth : ByteArray := prog_1_method_10_code
def y_IR_depth : MethodName := ⟨"IgnoreRules", "depth", "(Z)I"⟩
abbrev b_IR_many : ByteArray := prog_1_method_11_code
def y_IR_many : MethodName := ⟨"IgnoreRules", "many", "(Z)I"⟩
abbrev b_IR_name : ByteArray := prog_1_method_12_code
def y_IR_name : MethodName := ⟨"IgnoreRules", "name", "(III)Z"⟩
abbrev b_IR_requireRule : ByteArray := prog_1_method_13_code
def y_IR_requireRule : MethodName := ⟨"IgnoreRules", "requireRule", "(I)V"⟩
abbrev b_IR_requirePath : ByteArray := prog_1_method_14_code
def y_IR_requirePath : MethodName := ⟨"IgnoreRules", "requirePath", "()V"⟩
abbrev b_IR_decidingDepth : ByteArray := prog_1_method_15_code
def y_IR_decidingDepth : MethodName := ⟨"IgnoreRules", "decidingDepth", "()I"⟩
abbrev b_IR_lastFitting : ByteArray := prog_1_method_16_code
def y_IR_lastFitting : MethodName := ⟨"IgnoreRules", "lastFitting", "(IZ)I"⟩
abbrev b_IR_leavesOut : ByteArray := prog_1_method_17_code
def y_IR_leavesOut : MethodName := ⟨"IgnoreRules", "leavesOut", "(I)Z"⟩
abbrev b_RM_init : ByteArray := prog_7_method_1_code
def y_RM_init : MethodName := ⟨"IgnoreRulesModel", "<init>", "()V"⟩
abbrev b_RM_thrown : ByteArray := prog_7_method_2_code
def y_RM_thrown : MethodName := ⟨"IgnoreRulesModel", "thrown", "()I"⟩
abbrev b_RM_feed : ByteArray := prog_7_method_3_code
def y_RM_feed : MethodName := ⟨"IgnoreRulesModel", "feed", "(IJ)I"⟩
abbrev b_RM_wipe : ByteArray := prog_7_method_4_code
def y_RM_wipe : MethodName := ⟨"IgnoreRulesModel", "wipe", "()I"⟩
abbrev b_RM_isBehindOdd : ByteArray := prog_7_method_5_code
def y_RM_isBehindOdd : MethodName := ⟨"IgnoreRulesModel", "isBehindOdd", "(II)Z"⟩
abbrev b_RM_has : ByteArray := prog_7_method_6_code
def y_RM_has : MethodName := ⟨"IgnoreRulesModel", "has", "(III)Z"⟩
abbrev b_RM_look : ByteArray := prog_7_method_7_code
def y_RM_look : MethodName := ⟨"IgnoreRulesModel", "look", "(II)V"⟩
abbrev b_RM_itemEnd : ByteArray := prog_7_method_8_code
def y_RM_itemEnd : MethodName := ⟨"IgnoreRulesModel", "itemEnd", "(I)I"⟩
abbrev b_RM_itemByte : ByteArray := prog_7_method_9_code
def y_RM_itemByte : MethodName := ⟨"IgnoreRulesModel", "itemByte", "(I)I"⟩
abbrev b_RM_itemsFrom : ByteArray := prog_7_method_10_code
def y_RM_itemsFrom : MethodName := ⟨"IgnoreRulesModel", "itemsFrom", "(II)I"⟩
abbrev b_RM_isRow : ByteArray := prog_7_method_11_code
def y_RM_isRow : MethodName := ⟨"IgnoreRulesModel", "isRow", "(II)Z"⟩
abbrev b_RM_setEnd : ByteArray := prog_7_method_12_code
def y_RM_setEnd : MethodName := ⟨"IgnoreRulesModel", "setEnd", "(II)I"⟩
abbrev b_RM_isInSet : ByteArray := prog_7_method_13_code
def y_RM_isInSet : MethodName := ⟨"IgnoreRulesModel", "isInSet", "(III)Z"⟩
abbrev b_RM_isVoidName : ByteArray := prog_7_method_14_code
def y_RM_isVoidName : MethodName := ⟨"IgnoreRulesModel", "isVoidName", "(II)Z"⟩
abbrev b_RM_findParts : ByteArray := prog_7_method_15_code
def y_RM_findParts : MethodName := ⟨"IgnoreRulesModel", "findParts", "(II)V"⟩
abbrev b_RM_what : ByteArray := prog_7_method_16_code
def y_RM_what : MethodName := ⟨"IgnoreRulesModel", "what", "(IIZZZ)I"⟩
abbrev b_RM_line : ByteArray := prog_7_method_17_code
def y_RM_line : MethodName := ⟨"IgnoreRulesModel", "line", "(III)V"⟩
abbrev b_RM_tryLines : ByteArray := prog_7_method_18_code
def y_RM_tryLines : MethodName := ⟨"IgnoreRulesModel", "tryLines", "()I"⟩
abbrev b_RM_swapText : ByteArray := prog_7_method_19_code
def y_RM_swapText : MethodName := ⟨"IgnoreRulesModel", "swapText", "(Z)V"⟩
abbrev b_RM_read : ByteArray := prog_7_method_20_code
def y_RM_read : MethodName := ⟨"IgnoreRulesModel", "read", "()I"⟩
abbrev b_RM_noRule : ByteArray := prog_7_method_21_code
def y_RM_noRule : MethodName := ⟨"IgnoreRulesModel", "noRule", "(I)Z"⟩
abbrev b_RM_rule : ByteArray := prog_7_method_22_code
def y_RM_rule : MethodName := ⟨"IgnoreRulesModel", "rule", "(II)I"⟩
abbrev b_RM_isPath : ByteArray := prog_7_method_23_code
def y_RM_isPath : MethodName := ⟨"IgnoreRulesModel", "isPath", "()Z"⟩
abbrev b_RM_path : ByteArray := prog_7_method_24_code
def y_RM_path : MethodName := ⟨"IgnoreRulesModel", "path", "()I"⟩
abbrev b_RM_pass : ByteArray := prog_7_method_25_code
def y_RM_pass : MethodName := ⟨"IgnoreRulesModel", "pass", "(II)V"⟩
abbrev b_RM_takes : ByteArray := prog_7_method_26_code
def y_RM_takes : MethodName := ⟨"IgnoreRulesModel", "takes", "(III)Z"⟩
abbrev b_RM_fitsName : ByteArray := prog_7_method_27_code
def y_RM_fitsName : MethodName := ⟨"IgnoreRulesModel", "fitsName", "(III)Z"⟩
abbrev b_RM_isDeep : ByteArray := prog_7_method_28_code
def y_RM_isDeep : MethodName := ⟨"IgnoreRulesModel", "isDeep", "(II)Z"⟩
abbrev b_RM_fitsBound : ByteArray := prog_7_method_29_code
def y_RM_fitsBound : MethodName := ⟨"IgnoreRulesModel", "fitsBound", "(II)Z"⟩
abbrev b_RM_fitsFirst : ByteArray := prog_7_method_30_code
def y_RM_fitsFirst : MethodName := ⟨"IgnoreRulesModel", "fitsFirst", "(IIZ)Z"⟩
abbrev b_RM_fits : ByteArray := prog_7_method_31_code
def y_RM_fits : MethodName := ⟨"IgnoreRulesModel", "fits", "(IZ)Z"⟩
abbrev b_RM_last : ByteArray := prog_7_method_32_code
def y_RM_last : MethodName := ⟨"IgnoreRulesModel", "last", "(IZ)I"⟩
abbrev b_RM_decide : ByteArray := prog_7_method_33_code
def y_RM_decide : MethodName := ⟨"IgnoreRulesModel", "decide", "(Z)V"⟩
abbrev b_RM_out : ByteArray := prog_7_method_34_code
def y_RM_out : MethodName := ⟨"IgnoreRulesModel", "out", "(Z)Z"⟩
abbrev b_RM_by : ByteArray := prog_7_method_35_code
def y_RM_by : MethodName := ⟨"IgnoreRulesModel", "by", "(Z)I"⟩
abbrev b_RM_depth : ByteArray := prog_7_method_36_code
def y_RM_depth : MethodName := ⟨"IgnoreRulesModel", "depth", "(Z)I"⟩
abbrev b_RM_many : ByteArray := prog_7_method_37_code
def y_RM_many : MethodName := ⟨"IgnoreRulesModel", "many", "(Z)I"⟩
abbrev b_RM_name : ByteArray := prog_7_method_38_code
def y_RM_name : MethodName := ⟨"IgnoreRulesModel", "name", "(III)Z"⟩
abbrev b_IT_areWhole : ByteArray := prog_2_method_2_code
def y_IT_areWhole : MethodName := ⟨"IgnoreRules$Items", "areWhole", "([CII)Z"⟩
abbrev b_IT_lastByte : ByteArray := prog_2_method_3_code
def y_IT_lastByte : MethodName := ⟨"IgnoreRules$Items", "lastByte", "([CII)I"⟩
abbrev b_IT_take : ByteArray := prog_2_method_4_code
def y_IT_take : MethodName := ⟨"IgnoreRules$Items", "take", "([CIIC)Z"⟩
abbrev b_MA_init : ByteArray := prog_3_method_1_code
def y_MA_init : MethodName := ⟨"IgnoreRules$Matcher", "<init>", "()V"⟩
abbrev b_MA_ruleFits : ByteArray := prog_3_method_2_code
def y_MA_ruleFits : MethodName := ⟨"IgnoreRules$Matcher", "ruleFits", "(LIgnoreRules$RuleList;ILIgnoreRules$Path;IZ)Z"⟩
abbrev b_MA_isDeep : ByteArray := prog_3_method_3_code
def y_MA_isDeep : MethodName := ⟨"IgnoreRules$Matcher", "isDeep", "([CII)Z"⟩
abbrev b_MA_takeName : ByteArray := prog_3_method_4_code
def y_MA_takeName : MethodName := ⟨"IgnoreRules$Matcher", "takeName", "([CIILIgnoreRules$Path;IZ)V"⟩
abbrev b_MA_nameFits : ByteArray := prog_3_method_5_code
def y_MA_nameFits : MethodName := ⟨"IgnoreRules$Matcher", "nameFits", "([CIILIgnoreRules$Path;I)Z"⟩
abbrev b_MA_startRow : ByteArray := prog_3_method_6_code
def y_MA_startRow : MethodName := ⟨"IgnoreRules$Matcher", "startRow", "([ZII)V"⟩
abbrev b_MA_spread : ByteArray := prog_3_method_7_code
def y_MA_spread : MethodName := ⟨"IgnoreRules$Matcher", "spread", "([ZI)V"⟩
abbrev b_PA_init : ByteArray := prog_4_method_1_code
def y_PA_init : MethodName := ⟨"IgnoreRules$Path", "<init>", "()V"⟩
abbrev b_PA_load : ByteArray := prog_4_method_2_code
def y_PA_load : MethodName := ⟨"IgnoreRules$Path", "load", "([CI)Z"⟩
abbrev b_PA_lengthOf : ByteArray := prog_4_method_3_code
def y_PA_lengthOf : MethodName := ⟨"IgnoreRules$Path", "lengthOf", "(I)I"⟩
abbrev b_RL_init : ByteArray := prog_5_method_1_code
def y_RL_init : MethodName := ⟨"IgnoreRules$RuleList", "<init>", "()V"⟩
abbrev b_RL_load : ByteArray := prog_5_method_2_code
def y_RL_load : MethodName := ⟨"IgnoreRules$RuleList", "load", "([CI)Z"⟩
abbrev b_RL_withoutBlanks : ByteArray := prog_5_method_3_code
def y_RL_withoutBlanks : MethodName := ⟨"IgnoreRules$RuleList", "withoutBlanks", "(II)I"⟩
abbrev b_RL_isEscaped : ByteArray := prog_5_method_4_code
def y_RL_isEscaped : MethodName := ⟨"IgnoreRules$RuleList", "isEscaped", "(II)Z"⟩
abbrev b_RL_add : ByteArray := prog_5_method_5_code
def y_RL_add : MethodName := ⟨"IgnoreRules$RuleList", "add", "(III)V"⟩
abbrev b_RL_hasVoidName : ByteArray := prog_5_method_6_code
def y_RL_hasVoidName : MethodName := ⟨"IgnoreRules$RuleList", "hasVoidName", "(II)Z"⟩
abbrev b_RL_endOfName : ByteArray := prog_5_method_7_code
def y_RL_endOfName : MethodName := ⟨"IgnoreRules$RuleList", "endOfName", "(II)I"⟩
abbrev b_RL_countNames : ByteArray := prog_5_method_8_code
def y_RL_countNames : MethodName := ⟨"IgnoreRules$RuleList", "countNames", "(I)I"⟩
abbrev b_RL_nameStart : ByteArray := prog_5_method_9_code
def y_RL_nameStart : MethodName := ⟨"IgnoreRules$RuleList", "nameStart", "(II)I"⟩
abbrev b_RL_nameEnd : ByteArray := prog_5_method_10_code
def y_RL_nameEnd : MethodName := ⟨"IgnoreRules$RuleList", "nameEnd", "(II)I"⟩
abbrev b_LW_feed : ByteArray := method_3_code
def y_LW_feed : MethodName := ⟨"IgnoreRulesLaw", "feed", "(LIgnoreRules;IJ[J)I"⟩
abbrev b_LW_rule : ByteArray := method_4_code
def y_LW_rule : MethodName := ⟨"IgnoreRulesLaw", "rule", "(LIgnoreRules;II[J)I"⟩
abbrev b_LW_fits : ByteArray := method_5_code
def y_LW_fits : MethodName := ⟨"IgnoreRulesLaw", "fits", "(LIgnoreRules;IZ[J)I"⟩
abbrev b_LW_out : ByteArray := method_6_code
def y_LW_out : MethodName := ⟨"IgnoreRulesLaw", "out", "(LIgnoreRules;Z[J)I"⟩
abbrev b_LW_by : ByteArray := method_7_code
def y_LW_by : MethodName := ⟨"IgnoreRulesLaw", "by", "(LIgnoreRules;Z[J)I"⟩
abbrev b_LW_depth : ByteArray := method_8_code
def y_LW_depth : MethodName := ⟨"IgnoreRulesLaw", "depth", "(LIgnoreRules;Z[J)I"⟩
abbrev b_LW_many : ByteArray := method_9_code
def y_LW_many : MethodName := ⟨"IgnoreRulesLaw", "many", "(LIgnoreRules;Z[J)I"⟩
abbrev b_LW_name : ByteArray := method_10_code
def y_LW_name : MethodName := ⟨"IgnoreRulesLaw", "name", "(LIgnoreRules;III[J)I"⟩
abbrev b_LW_law : ByteArray := code
def y_LW_law : MethodName := ⟨"IgnoreRulesLaw", "law", "([I)Z"⟩
def ig_T : List Cond := lw_tbl.filter goodWord
theorem ig_T_mem {w : Cond} (h : w ∈ tables_1) (hg : goodWord w = true) : w ∈ ig_T := List.mem_filter.mpr ⟨List.mem_append_right _ h, hg⟩
theorem in_RL : ∀ w ∈ u_ws R_RL F_RL 6, w ∈ ig_T := by decide +kernel
theorem in_PA : ∀ w ∈ u_ws R_PA F_PA 3, w ∈ ig_T := by decide +kernel
theorem in_MA : ∀ w ∈ u_ws R_MA F_MA 2, w ∈ ig_T := by decide +kernel
theorem in_IR : ∀ w ∈ u_ws R_IR F_IR 6, w ∈ ig_T := by decide +kernel
theorem in_RM : ∀ w ∈ u_ws R_RM F_RM 26, w ∈ ig_T := by decide +kernel
def ig_nf : List (String × Nat × String × String × String × String) := [("IgnoreRules$Matcher", 34, "IgnoreRules$RuleList", "text", "[C", "IgnoreRules"), ("IgnoreRules", 106, "IgnoreRules$RuleList", "text", "[C", "IgnoreRules"), ("IgnoreRules$Matcher", 28, "IgnoreRules$RuleList", "starts", "[I", "IgnoreRules"), ("IgnoreRules$Matcher", 31, "IgnoreRules$RuleList", "ends", "[I", "IgnoreRules"), ("IgnoreRules$Matcher", 18, "IgnoreRules$RuleList", "bits", "[I", "IgnoreRules"), ("IgnoreRules", 61, "IgnoreRules$RuleList", "bits", "[I", "IgnoreRules"), ("IgnoreRules", 69, "IgnoreRules$RuleList", "lines", "[I", "IgnoreRules"), ("IgnoreRules", 54, "IgnoreRules$RuleList", "count", "I", "IgnoreRules"), ("IgnoreRules$Matcher", 67, "IgnoreRules$Path", "bytes", "[C", "IgnoreRules"), ("IgnoreRules$Matcher", 54, "IgnoreRules$Path", "starts", "[I", "IgnoreRules"), ("IgnoreRules", 75, "IgnoreRules$Path", "count", "I", "IgnoreRules")]
def ig_nm : List (String × Nat × MethodName × String) := [("IgnoreRules", 15, y_RL_init, "IgnoreRules"), ("IgnoreRules", 25, y_PA_init, "IgnoreRules"), ("IgnoreRules", 32, y_MA_init, "IgnoreRules"), ("IgnoreRules", 50, y_RL_load, "IgnoreRules"), ("IgnoreRules$RuleList", 50, y_IT_areWhole, "IgnoreRules"), ("IgnoreRules", 74, y_PA_load, "IgnoreRules"), ("IgnoreRules", 65, y_RL_countNames, "IgnoreRules"), ("IgnoreRules", 79, y_MA_ruleFits, "IgnoreRules"), ("IgnoreRules$Matcher", 57, y_PA_lengthOf, "IgnoreRules"), ("IgnoreRules$Matcher", 61, y_IT_lastByte, "IgnoreRules"), ("IgnoreRules$Matcher", 70, y_IT_take, "IgnoreRules"), ("IgnoreRules", 102, y_RL_nameStart, "IgnoreRules"), ("IgnoreRules", 109, y_RL_nameEnd, "IgnoreRules"), ("IgnoreRules", 112, y_MA_nameFits, "IgnoreRules")]
theorem nf_0 : ("IgnoreRules$Matcher", 34, "IgnoreRules$RuleList", "text", "[C", "IgnoreRules") ∈ ig_nf := List.mem_of_getElem? (i := 0) rfl
theorem nf_1 : ("IgnoreRules", 106, "IgnoreRules$RuleList", "text", "[C", "IgnoreRules") ∈ ig_nf := List.mem_of_getElem? (i := 1) rfl
theorem nf_2 : ("IgnoreRules$Matcher", 28, "IgnoreRules$RuleList", "starts", "[I", "IgnoreRules") ∈ ig_nf := List.mem_of_getElem? (i := 2) rfl
theorem nf_3 : ("IgnoreRules$Matcher", 31, "IgnoreRules$RuleList", "ends", "[I", "IgnoreRules") ∈ ig_nf := List.mem_of_getElem? (i := 3) rfl
theorem nf_4 : ("IgnoreRules$Matcher", 18, "IgnoreRules$RuleList", "bits", "[I", "IgnoreRules") ∈ ig_nf := List.mem_of_getElem? (i := 4) rfl
theorem nf_5 : ("IgnoreRules", 61, "IgnoreRules$RuleList", "bits", "[I", "IgnoreRules") ∈ ig_nf := List.mem_of_getElem? (i := 5) rfl
theorem nf_6 : ("IgnoreRules", 69, "IgnoreRules$RuleList", "lines", "[I", "IgnoreRules") ∈ ig_nf := List.mem_of_getElem? (i := 6) rfl
theorem nf_7 : ("IgnoreRules", 54, "IgnoreRules$RuleList", "count", "I", "IgnoreRules") ∈ ig_nf := List.mem_of_getElem? (i := 7) rfl
theorem nf_8 : ("IgnoreRules$Matcher", 67, "IgnoreRules$Path", "bytes", "[C", "IgnoreRules") ∈ ig_nf := List.mem_of_getElem? (i := 8) rfl
theorem nf_9 : ("IgnoreRules$Matcher", 54, "IgnoreRules$Path", "starts", "[I", "IgnoreRules") ∈ ig_nf := List.mem_of_getElem? (i := 9) rfl
theorem nf_10 : ("IgnoreRules", 75, "IgnoreRules$Path", "count", "I", "IgnoreRules") ∈ ig_nf := List.mem_of_getElem? (i := 10) rfl
theorem nm_0 : ("IgnoreRules", 15, y_RL_init, "IgnoreRules") ∈ ig_nm := List.mem_of_getElem? (i := 0) rfl
theorem nm_1 : ("IgnoreRules", 25, y_PA_init, "IgnoreRules") ∈ ig_nm := List.mem_of_getElem? (i := 1) rfl
theorem nm_2 : ("IgnoreRules", 32, y_MA_init, "IgnoreRules") ∈ ig_nm := List.mem_of_getElem? (i := 2) rfl
theorem nm_3 : ("IgnoreRules", 50, y_RL_load, "IgnoreRules") ∈ ig_nm := List.mem_of_getElem? (i := 3) rfl
theorem nm_4 : ("IgnoreRules$RuleList", 50, y_IT_areWhole, "IgnoreRules") ∈ ig_nm := List.mem_of_getElem? (i := 4) rfl
theorem nm_5 : ("IgnoreRules", 74, y_PA_load, "IgnoreRules") ∈ ig_nm := List.mem_of_getElem? (i := 5) rfl
theorem nm_6 : ("IgnoreRules", 65, y_RL_countNames, "IgnoreRules") ∈ ig_nm := List.mem_of_getElem? (i := 6) rfl
theorem nm_7 : ("IgnoreRules", 79, y_MA_ruleFits, "IgnoreRules") ∈ ig_nm := List.mem_of_getElem? (i := 7) rfl
theorem nm_8 : ("IgnoreRules$Matcher", 57, y_PA_lengthOf, "IgnoreRules") ∈ ig_nm := List.mem_of_getElem? (i := 8) rfl
theorem nm_9 : ("IgnoreRules$Matcher", 61, y_IT_lastByte, "IgnoreRules") ∈ ig_nm := List.mem_of_getElem? (i := 9) rfl
theorem nm_10 : ("IgnoreRules$Matcher", 70, y_IT_take, "IgnoreRules") ∈ ig_nm := List.mem_of_getElem? (i := 10) rfl
theorem nm_11 : ("IgnoreRules", 102, y_RL_nameStart, "IgnoreRules") ∈ ig_nm := List.mem_of_getElem? (i := 11) rfl
theorem nm_12 : ("IgnoreRules", 109, y_RL_nameEnd, "IgnoreRules") ∈ ig_nm := List.mem_of_getElem? (i := 12) rfl
theorem nm_13 : ("IgnoreRules", 112, y_MA_nameFits, "IgnoreRules") ∈ ig_nm := List.mem_of_getElem? (i := 13) rfl
theorem ks_RL_load : Cond.selects y_RL_load.cls y_RL_load y_RL_load ∈ ig_T := List.mem_filter.mpr ⟨List.mem_append_left _ (List.mem_map.mpr ⟨(y_RL_load, 6), List.mem_append_left _ (List.mem_of_getElem? (i := 0) rfl), rfl⟩), rfl⟩
theorem ks_RL_withoutBlanks : Cond.selects y_RL_withoutBlanks.cls y_RL_withoutBlanks y_RL_withoutBlanks ∈ ig_T := List.mem_filter.mpr ⟨List.mem_append_left _ (List.mem_map.mpr ⟨(y_RL_withoutBlanks, 6), List.mem_append_left _ (List.mem_of_getElem? (i := 1) rfl), rfl⟩), rfl⟩
theorem ks_RL_isEscaped : Cond.selects y_RL_isEscaped.cls y_RL_isEscaped y_RL_isEscaped ∈ ig_T := List.mem_filter.mpr ⟨List.mem_append_left _ (List.mem_map.mpr ⟨(y_RL_isEscaped, 6), List.mem_append_left _ (List.mem_of_getElem? (i := 2) rfl), rfl⟩), rfl⟩
theorem ks_RL_add : Cond.selects y_RL_add.cls y_RL_add y_RL_add ∈ ig_T := List.mem_filter.mpr ⟨List.mem_append_left _ (List.mem_map.mpr ⟨(y_RL_add, 6), List.mem_append_left _ (List.mem_of_getElem? (i := 3) rfl), rfl⟩), rfl⟩
theorem ks_RL_endOfName : Cond.selects y_RL_endOfName.cls y_RL_endOfName y_RL_endOfName ∈ ig_T := List.mem_filter.mpr ⟨List.mem_append_left _ (List.mem_map.mpr ⟨(y_RL_endOfName, 6), List.mem_append_left _ (List.mem_of_getElem? (i := 4) rfl), rfl⟩), rfl⟩
theorem ks_RL_hasVoidName : Cond.selects y_RL_hasVoidName.cls y_RL_hasVoidName y_RL_hasVoidName ∈ ig_T := List.mem_filter.mpr ⟨List.mem_append_left _ (List.mem_map.mpr ⟨(y_RL_hasVoidName, 6), List.mem_append_left _ (List.mem_of_getElem? (i := 5) rfl), rfl⟩), rfl⟩
theorem ks_PA_load : Cond.selects y_PA_load.cls y_PA_load y_PA_load ∈ ig_T := List.mem_filter.mpr ⟨List.mem_append_left _ (List.mem_map.mpr ⟨(y_PA_load, 3), List.mem_append_left _ (List.mem_of_getElem? (i := 6) rfl), rfl⟩), rfl⟩
theorem ks_IR_requireRule : Cond.selects y_IR_requireRule.cls y_IR_requireRule y_IR_requireRule ∈ ig_T := List.mem_filter.mpr ⟨List.mem_append_left _ (List.mem_map.mpr ⟨(y_IR_requireRule, 6), List.mem_append_left _ (List.mem_of_getElem? (i := 8) rfl), rfl⟩), rfl⟩
theorem ks_RL_countNames : Cond.selects y_RL_countNames.cls y_RL_countNames y_RL_countNames ∈ ig_T := List.mem_filter.mpr ⟨List.mem_append_left _ (List.mem_map.mpr ⟨(y_RL_countNames, 6), List.mem_append_left _ (List.mem_of_getElem? (i := 9) rfl), rfl⟩), rfl⟩
theorem ks_IR_requirePath : Cond.selects y_IR_requirePath.cls y_IR_requirePath y_IR_requirePath ∈ ig_T := List.mem_filter.mpr ⟨List.mem_append_left _ (List.mem_map.mpr ⟨(y_IR_requirePath, 6), List.mem_append_left _ (List.mem_of_getElem? (i := 10) rfl), rfl⟩), rfl⟩
theorem ks_MA_ruleFits : Cond.selects y_MA_ruleFits.cls y_MA_ruleFits y_MA_ruleFits ∈ ig_T := List.mem_filter.mpr ⟨List.mem_append_left _ (List.mem_map.mpr ⟨(y_MA_ruleFits, 2), List.mem_append_left _ (List.mem_of_getElem? (i := 11) rfl), rfl⟩), rfl⟩
theorem ks_MA_takeName : Cond.selects y_MA_takeName.cls y_MA_takeName y_MA_takeName ∈ ig_T := List.mem_filter.mpr ⟨List.mem_append_left _ (List.mem_map.mpr ⟨(y_MA_takeName, 2), List.mem_append_left _ (List.mem_of_getElem? (i := 12) rfl), rfl⟩), rfl⟩
theorem ks_MA_nameFits : Cond.selects y_MA_nameFits.cls y_MA_nameFits y_MA_nameFits ∈ ig_T := List.mem_filter.mpr ⟨List.mem_append_left _ (List.mem_map.mpr ⟨(y_MA_nameFits, 2), List.mem_append_left _ (List.mem_of_getElem? (i := 13) rfl), rfl⟩), rfl⟩
theorem ks_PA_lengthOf : Cond.selects y_PA_lengthOf.cls y_PA_lengthOf y_PA_lengthOf ∈ ig_T := List.mem_filter.mpr ⟨List.mem_append_left _ (List.mem_map.mpr ⟨(y_PA_lengthOf, 3), List.mem_append_left _ (List.mem_of_getElem? (i := 14) rfl), rfl⟩), rfl⟩
theorem ks_IR_decidingDepth : Cond.selects y_IR_decidingDepth.cls y_IR_decidingDepth y_IR_decidingDepth ∈ ig_T := List.mem_filter.mpr ⟨List.mem_append_left _ (List.mem_map.mpr ⟨(y_IR_decidingDepth, 6), List.mem_append_left _ (List.mem_of_getElem? (i := 15) rfl), rfl⟩), rfl⟩
theorem ks_IR_lastFitting : Cond.selects y_IR_lastFitting.cls y_IR_lastFitting y_IR_lastFitting ∈ ig_T := List.mem_filter.mpr ⟨List.mem_append_left _ (List.mem_map.mpr ⟨(y_IR_lastFitting, 6), List.mem_append_right _ (List.mem_append_left _ (List.mem_of_getElem? (i := 0) rfl)), rfl⟩), rfl⟩
theorem ks_IR_leavesOut : Cond.selects y_IR_leavesOut.cls y_IR_leavesOut y_IR_leavesOut ∈ ig_T := List.mem_filter.mpr ⟨List.mem_append_left _ (List.mem_map.mpr ⟨(y_IR_leavesOut, 6), List.mem_append_right _ (List.mem_append_left _ (List.mem_of_getElem? (i := 1) rfl)), rfl⟩), rfl⟩
theorem ks_RL_nameStart : Cond.selects y_RL_nameStart.cls y_RL_nameStart y_RL_nameStart ∈ ig_T := List.mem_filter.mpr ⟨List.mem_append_left _ (List.mem_map.mpr ⟨(y_RL_nameStart, 6), List.mem_append_right _ (List.mem_append_left _ (List.mem_of_getElem? (i := 2) rfl)), rfl⟩), rfl⟩
theorem ks_RL_nameEnd : Cond.selects y_RL_nameEnd.cls y_RL_nameEnd y_RL_nameEnd ∈ ig_T := List.mem_filter.mpr ⟨List.mem_append_left _ (List.mem_map.mpr ⟨(y_RL_nameEnd, 6), List.mem_append_right _ (List.mem_append_left _ (List.mem_of_getElem? (i := 3) rfl)), rfl⟩), rfl⟩
theorem ks_RM_swapText : Cond.selects y_RM_swapText.cls y_RM_swapText y_RM_swapText ∈ ig_T := List.mem_filter.mpr ⟨List.mem_append_left _ (List.mem_map.mpr ⟨(y_RM_swapText, 26), List.mem_append_right _ (List.mem_append_left _ (List.mem_of_getElem? (i := 4) rfl)), rfl⟩), rfl⟩
theorem ks_RM_tryLines : Cond.selects y_RM_tryLines.cls y_RM_tryLines y_RM_tryLines ∈ ig_T := List.mem_filter.mpr ⟨List.mem_append_left _ (List.mem_map.mpr ⟨(y_RM_tryLines, 26), List.mem_append_right _ (List.mem_append_left _ (List.mem_of_getElem? (i := 5) rfl)), rfl⟩), rfl⟩
theorem ks_RM_line : Cond.selects y_RM_line.cls y_RM_line y_RM_line ∈ ig_T := List.mem_filter.mpr ⟨List.mem_append_left _ (List.mem_map.mpr ⟨(y_RM_line, 26), List.mem_append_right _ (List.mem_append_left _ (List.mem_of_getElem? (i := 6) rfl)), rfl⟩), rfl⟩
theorem ks_RM_isBehindOdd : Cond.selects y_RM_isBehindOdd.cls y_RM_isBehindOdd y_RM_isBehindOdd ∈ ig_T := List.mem_filter.mpr ⟨List.mem_append_left _ (List.mem_map.mpr ⟨(y_RM_isBehindOdd, 26), List.mem_append_right _ (List.mem_append_left _ (List.mem_of_getElem? (i := 7) rfl)), rfl⟩), rfl⟩
theorem ks_RM_has : Cond.selects y_RM_has.cls y_RM_has y_RM_has ∈ ig_T := List.mem_filter.mpr ⟨List.mem_append_left _ (List.mem_map.mpr ⟨(y_RM_has, 26), List.mem_append_right _ (List.mem_append_left _ (List.mem_of_getElem? (i := 8) rfl)), rfl⟩), rfl⟩
theorem ks_RM_what : Cond.selects y_RM_what.cls y_RM_what y_RM_what ∈ ig_T := List.mem_filter.mpr ⟨List.mem_append_left _ (List.mem_map.mpr ⟨(y_RM_what, 26), List.mem_append_right _ (List.mem_append_left _ (List.mem_of_getElem? (i := 9) rfl)), rfl⟩), rfl⟩
theorem ks_RM_findParts : Cond.selects y_RM_findParts.cls y_RM_findParts y_RM_findParts ∈ ig_T := List.mem_filter.mpr ⟨List.mem_append_left _ (List.mem_map.mpr ⟨(y_RM_findParts, 26), List.mem_append_right _ (List.mem_append_left _ (List.mem_of_getElem? (i := 10) rfl)), rfl⟩), rfl⟩
theorem ks_RM_isVoidName : Cond.selects y_RM_isVoidName.cls y_RM_isVoidName y_RM_isVoidName ∈ ig_T := List.mem_filter.mpr ⟨List.mem_append_left _ (List.mem_map.mpr ⟨(y_RM_isVoidName, 26), List.mem_append_right _ (List.mem_append_left _ (List.mem_of_getElem? (i := 11) rfl)), rfl⟩), rfl⟩
theorem ks_RM_look : Cond.selects y_RM_look.cls y_RM_look y_RM_look ∈ ig_T := List.mem_filter.mpr ⟨List.mem_append_left _ (List.mem_map.mpr ⟨(y_RM_look, 26), List.mem_append_right _ (List.mem_append_left _ (List.mem_of_getElem? (i := 12) rfl)), rfl⟩), rfl⟩
theorem ks_RM_setEnd : Cond.selects y_RM_setEnd.cls y_RM_setEnd y_RM_setEnd ∈ ig_T := List.mem_filter.mpr ⟨List.mem_append_left _ (List.mem_map.mpr ⟨(y_RM_setEnd, 26), List.mem_append_right _ (List.mem_append_left _ (List.mem_of_getElem? (i := 13) rfl)), rfl⟩), rfl⟩
theorem ks_RM_itemsFrom : Cond.selects y_RM_itemsFrom.cls y_RM_itemsFrom y_RM_itemsFrom ∈ ig_T := List.mem_filter.mpr ⟨List.mem_append_left _ (List.mem_map.mpr ⟨(y_RM_itemsFrom, 26), List.mem_append_right _ (List.mem_append_left _ (List.mem_of_getElem? (i := 14) rfl)), rfl⟩), rfl⟩
theorem ks_RM_itemEnd : Cond.selects y_RM_itemEnd.cls y_RM_itemEnd y_RM_itemEnd ∈ ig_T := List.mem_filter.mpr ⟨List.mem_append_left _ (List.mem_map.mpr ⟨(y_RM_itemEnd, 26), List.mem_append_right _ (List.mem_append_left _ (List.mem_of_getElem? (i := 15) rfl)), rfl⟩), rfl⟩
theorem ks_RM_isRow : Cond.selects y_RM_isRow.cls y_RM_isRow y_RM_isRow ∈ ig_T := List.mem_filter.mpr ⟨List.mem_append_left _ (List.mem_map.mpr ⟨(y_RM_isRow, 26), List.mem_append_right _ (List.mem_append_right _ (List.mem_of_getElem? (i := 0) rfl)), rfl⟩), rfl⟩
theorem ks_RM_noRule : Cond.selects y_RM_noRule.cls y_RM_noRule y_RM_noRule ∈ ig_T := List.mem_filter.mpr ⟨List.mem_append_left _ (List.mem_map.mpr ⟨(y_RM_noRule, 26), List.mem_append_right _ (List.mem_append_right _ (List.mem_of_getElem? (i := 1) rfl)), rfl⟩), rfl⟩
theorem ks_RM_isPath : Cond.selects y_RM_isPath.cls y_RM_isPath y_RM_isPath ∈ ig_T := List.mem_filter.mpr ⟨List.mem_append_left _ (List.mem_map.mpr ⟨(y_RM_isPath, 26), List.mem_append_right _ (List.mem_append_right _ (List.mem_of_getElem? (i := 2) rfl)), rfl⟩), rfl⟩
theorem ks_RM_fitsFirst : Cond.selects y_RM_fitsFirst.cls y_RM_fitsFirst y_RM_fitsFirst ∈ ig_T := List.mem_filter.mpr ⟨List.mem_append_left _ (List.mem_map.mpr ⟨(y_RM_fitsFirst, 26), List.mem_append_right _ (List.mem_append_right _ (List.mem_of_getElem? (i := 3) rfl)), rfl⟩), rfl⟩
theorem ks_RM_fitsBound : Cond.selects y_RM_fitsBound.cls y_RM_fitsBound y_RM_fitsBound ∈ ig_T := List.mem_filter.mpr ⟨List.mem_append_left _ (List.mem_map.mpr ⟨(y_RM_fitsBound, 26), List.mem_append_right _ (List.mem_append_right _ (List.mem_of_getElem? (i := 4) rfl)), rfl⟩), rfl⟩
theorem ks_RM_isDeep : Cond.selects y_RM_isDeep.cls y_RM_isDeep y_RM_isDeep ∈ ig_T := List.mem_filter.mpr ⟨List.mem_append_left _ (List.mem_map.mpr ⟨(y_RM_isDeep, 26), List.mem_append_right _ (List.mem_append_right _ (List.mem_of_getElem? (i := 5) rfl)), rfl⟩), rfl⟩
theorem ks_RM_fitsName : Cond.selects y_RM_fitsName.cls y_RM_fitsName y_RM_fitsName ∈ ig_T := List.mem_filter.mpr ⟨List.mem_append_left _ (List.mem_map.mpr ⟨(y_RM_fitsName, 26), List.mem_append_right _ (List.mem_append_right _ (List.mem_of_getElem? (i := 6) rfl)), rfl⟩), rfl⟩
theorem ks_RM_pass : Cond.selects y_RM_pass.cls y_RM_pass y_RM_pass ∈ ig_T := List.mem_filter.mpr ⟨List.mem_append_left _ (List.mem_map.mpr ⟨(y_RM_pass, 26), List.mem_append_right _ (List.mem_append_right _ (List.mem_of_getElem? (i := 7) rfl)), rfl⟩), rfl⟩
theorem ks_RM_takes : Cond.selects y_RM_takes.cls y_RM_takes y_RM_takes ∈ ig_T := List.mem_filter.mpr ⟨List.mem_append_left _ (List.mem_map.mpr ⟨(y_RM_takes, 26), List.mem_append_right _ (List.mem_append_right _ (List.mem_of_getElem? (i := 8) rfl)), rfl⟩), rfl⟩
theorem ks_RM_isInSet : Cond.selects y_RM_isInSet.cls y_RM_isInSet y_RM_isInSet ∈ ig_T := List.mem_filter.mpr ⟨List.mem_append_left _ (List.mem_map.mpr ⟨(y_RM_isInSet, 26), List.mem_append_right _ (List.mem_append_right _ (List.mem_of_getElem? (i := 9) rfl)), rfl⟩), rfl⟩
theorem ks_RM_itemByte : Cond.selects y_RM_itemByte.cls y_RM_itemByte y_RM_itemByte ∈ ig_T := List.mem_filter.mpr ⟨List.mem_append_left _ (List.mem_map.mpr ⟨(y_RM_itemByte, 26), List.mem_append_right _ (List.mem_append_right _ (List.mem_of_getElem? (i := 10) rfl)), rfl⟩), rfl⟩
theorem ks_RM_decide : Cond.selects y_RM_decide.cls y_RM_decide y_RM_decide ∈ ig_T := List.mem_filter.mpr ⟨List.mem_append_left _ (List.mem_map.mpr ⟨(y_RM_decide, 26), List.mem_append_right _ (List.mem_append_right _ (List.mem_of_getElem? (i := 11) rfl)), rfl⟩), rfl⟩
theorem ks_RM_last : Cond.selects y_RM_last.cls y_RM_last y_RM_last ∈ ig_T := List.mem_filter.mpr ⟨List.mem_append_left _ (List.mem_map.mpr ⟨(y_RM_last, 26), List.mem_append_right _ (List.mem_append_right _ (List.mem_of_getElem? (i := 12) rfl)), rfl⟩), rfl⟩
end
section
/-! My own rows: one judgement over lists (locals, stack, cells), a row an instruction, numbers as naturals. -/
def bI (b : Bool) : Int32 := cond b 1 0
theorem bI_0 {b : Bool} : bI b = 0 ↔ b = false := by cases b <;> decide
theorem bI_1 {b : Bool} : ¬ bI b = 0 ↔ b = true := by cases b <;> decide
theorem bI_nar (b : Bool) : vp_nar .boolean (bI b) = bI b := by cases b <;> rfl
theorem bI_ret (b : Bool) : narrow .boolean (.int (bI b)) = .int (bI b) := by cases b <;> rfl
theorem bI_inj {a b : Bool} (h : bI a = bI b) : a = b := by cases a <;> cases b <;> first | rfl | exact absurd h (by decide)
theorem bI_N (b : Bool) : bI b = nI (cond b 1 0) := by cases b <;> rfl
def updN (g : Nat → Nat) (k x : Nat) : Nat → Nat := fun j => if j = k then x else g j
def updB (g : Nat → Bool) (k : Nat) (x : Bool) : Nat → Bool := fun j => if j = k then x else g j
theorem upd_N (g : Nat → Nat) (k x : Nat) : upd (fun j => nI (g j)) k (nI x) = fun j => nI (updN g k x j) := by
  funext j
  simp only [upd, updN]
  split <;> rfl
theorem upd_B (g : Nat → Bool) (k : Nat) (x : Bool) : upd (fun j => bI (g j)) k (bI x) = fun j => bI (updB g k x j) := by
  funext j
  simp only [upd, updB]
  split <;> rfl
theorem updN_s {g : Nat → Nat} {k x : Nat} : updN g k x k = x := by simp [updN]
theorem updN_n {g : Nat → Nat} {k x j : Nat} (h : j ≠ k) : updN g k x j = g j := by simp [updN, h]
theorem updB_s {g : Nat → Bool} {k : Nat} {x : Bool} : updB g k x k = x := by simp [updB]
theorem updB_n {g : Nat → Bool} {k j : Nat} {x : Bool} (h : j ≠ k) : updB g k x j = g j := by simp [updB, h]
theorem ig_cl {j : Nat} (h : j < 2147483648) : (nI j).toNatClampNeg = j := nI_clamp (by omega)
theorem ig_in {j n : Nat} (h : j < n) (hn : n < 2147483648) : vp_in (nI j) n := vp_in_nI h (by omega)
theorem ig_eq {a b : Nat} (ha : a < 2147483648) (hb : b < 2147483648) : nI a = nI b ↔ a = b := nI_eq (by omega) (by omega)
theorem ig_le {a b : Nat} (ha : a < 2147483648) (hb : b < 2147483648) : nI a ≤ nI b ↔ a ≤ b := nI_leI (by omega) (by omega)
theorem ig_lt {a b : Nat} (ha : a < 2147483648) (hb : b < 2147483648) : nI a < nI b ↔ a < b := nI_ltI (by omega) (by omega)
theorem ig_and (a b : Nat) : nI a &&& nI b = nI (a &&& b) := by
  apply Int32.toBitVec_inj.mp
  show BitVec.ofNat 32 a &&& BitVec.ofNat 32 b = BitVec.ofNat 32 (a &&& b)
  apply BitVec.eq_of_toNat_eq
  simp [BitVec.toNat_ofNat, Nat.and_mod_two_pow]
theorem ig_or (a b : Nat) : nI a ||| nI b = nI (a ||| b) := by
  apply Int32.toBitVec_inj.mp
  show BitVec.ofNat 32 a ||| BitVec.ofNat 32 b = BitVec.ofNat 32 (a ||| b)
  apply BitVec.eq_of_toNat_eq
  simp [BitVec.toNat_ofNat, Nat.or_mod_two_pow]
theorem ig_ne0 {b : Nat} (h2 : 0 < b) (h3 : b < 2 ^ 31) : ¬ nI b = 0 := nI_ne0 h2 h3
theorem ig_Pge {a : Nat} (h : 0 < a) (h1 : a < 2147483648) : (0 : Int32) ≤ nI a - 1 := by
  cases a with
  | zero => omega
  | succ j => rw [nI_pred]; exact nI_pos' (by omega)
theorem ig_P0 {a : Nat} (h1 : a < 2147483648) : nI a - 1 < 0 ↔ a = 0 := by
  cases a with
  | zero => exact ⟨fun _ => rfl, fun _ => by decide⟩
  | succ j =>
    rw [nI_pred]
    exact ⟨fun h => absurd h (nI_pos (by omega)), fun h => by omega⟩
/-- the machine, from pc on, with these locals, this stack, these cells -/
def ig_W (p : Program) (l : Launch) (e : Env) (R : Room) (s : State) (m : MethodId) (args : Array Value) (below : List Frame) (meth : Method) (c : Code) (D : va_G) (cl : List vw_C) (A : Nat → Prop) (H0 : Heap) (nL cells slots : Nat) (Q : State → Prop) (pc : Nat) (lv : List (Nat × Value)) (st : List Value) (ws : va_W) : Prop :=
  ∀ (H : Heap) (locs : List Loc) (ls : Array Slot), lv_has ls nL lv → va_P D cl ws H → va_D A ws → va_S A H0 H locs → W p l e R s m args below meth c H locs cells slots Q (F0 m pc ls st)
section IG
variable {p : Program} {l : Launch} {e : Env} {R : Room} {s : State} {m : MethodId} {args : Array Value} {below : List Frame} {meth : Method} {c : Code} {D : va_G} {cl : List vw_C} {A : Nat → Prop} {H0 : Heap} {nL cells slots : Nat} {Q : State → Prop}
variable {cc : ByteArray} {pc : Nat} {lv : List (Nat × Value)} {st : List Value} {ws : va_W} {tys : List (ClassId × FieldType)}
theorem ig_lv (ks : List Nat) {lv' : List (Nat × Value)} (h : lv_pick lv ks = lv') (k : ig_W p l e R s m args below meth c D cl A H0 nL cells slots Q pc lv' st ws) : ig_W p l e R s m args below meth c D cl A H0 nL cells slots Q pc lv st ws := fun H locs ls hl hP hD hS => k H locs ls (lv_sub hl ks h) hP hD hS
theorem ig_ws (is : List Nat) {ws' : va_W} (hn : va_nd is = true) (h1 : is.filterMap (fun i => ws[i]?) = ws') (h2 : is.map (fun i => ws[i]?) = ws'.map some) (k : ig_W p l e R s m args below meth c D cl A H0 nL cells slots Q pc lv st ws') : ig_W p l e R s m args below meth c D cl A H0 nL cells slots Q pc lv st ws := fun H locs ls hl hP hD hS => k H locs ls hl (hP.sub is h1) (hD.sub is hn h2) hS
theorem ig_iconst (hx : p.tables.exec = Jvm.exec) (hb : c.code = cc) {n : Int} {v : Int32} (hd : decode cc pc = .ok (.iconst n, 1)) (hv : Int32.ofInt n = v) (k : ig_W p l e R s m args below meth c D cl A H0 nL cells slots Q (pc + 1) lv (.int v :: st) ws) : ig_W p l e R s m args below meth c D cl A H0 nL cells slots Q pc lv st ws := fun H locs ls hl hP hD hS => lv_iconst hx hb hd hv (k H locs ls hl hP hD hS)
theorem ig_bipush (hx : p.tables.exec = Jvm.exec) (hb : c.code = cc) {n : Int} {v : Int32} (hd : decode cc pc = .ok (.bipush n, 2)) (hv : (Int8.ofInt n).toInt32 = v) (k : ig_W p l e R s m args below meth c D cl A H0 nL cells slots Q (pc + 2) lv (.int v :: st) ws) : ig_W p l e R s m args below meth c D cl A H0 nL cells slots Q pc lv st ws := fun H locs ls hl hP hD hS => lv_bipush hx hb hd hv (k H locs ls hl hP hD hS)
theorem ig_sipush (hx : p.tables.exec = Jvm.exec) (hb : c.code = cc) {n : Int} {v : Int32} (hd : decode cc pc = .ok (.sipush n, 3)) (hv : (Int16.ofInt n).toInt32 = v) (k : ig_W p l e R s m args below meth c D cl A H0 nL cells slots Q (pc + 3) lv (.int v :: st) ws) : ig_W p l e R s m args below meth c D cl A H0 nL cells slots Q pc lv st ws := fun H locs ls hl hP hD hS => lv_sipush hx hb hd hv (k H locs ls hl hP hD hS)
theorem ig_lconst (hx : p.tables.exec = Jvm.exec) (hb : c.code = cc) {n : Fin 2} {v : Int64} (hd : decode cc pc = .ok (.lconst n, 1)) (hv : Int64.ofNat (n : Nat) = v) (k : ig_W p l e R s m args below meth c D cl A H0 nL cells slots Q (pc + 1) lv (.long v :: st) ws) : ig_W p l e R s m args below meth c D cl A H0 nL cells slots Q pc lv st ws := fun H locs ls hl hP hD hS => lv_lconst hx hb hd hv (k H locs ls hl hP hD hS)
theorem ig_iload_n (hx : p.tables.exec = Jvm.exec) (hb : c.code = cc) {n : Fin 4} {i : Nat} {x : Int32} (q : Nat) (hd : decode cc pc = .ok (.iload_n n, 1)) (hi : (n : Nat) = i) (hq : lv[q]? = some (i, .int x)) (k : ig_W p l e R s m args below meth c D cl A H0 nL cells slots Q (pc + 1) lv (.int x :: st) ws) : ig_W p l e R s m args below meth c D cl A H0 nL cells slots Q pc lv st ws := fun H locs ls hl hP hD hS => lv_iload_n hx hb hd hi (lv_at hl q hq) (k H locs ls hl hP hD hS)
theorem ig_iload (hx : p.tables.exec = Jvm.exec) (hb : c.code = cc) {i : Nat} {x : Int32} (q : Nat) (hd : decode cc pc = .ok (.iload i, 2)) (hq : lv[q]? = some (i, .int x)) (k : ig_W p l e R s m args below meth c D cl A H0 nL cells slots Q (pc + 2) lv (.int x :: st) ws) : ig_W p l e R s m args below meth c D cl A H0 nL cells slots Q pc lv st ws := fun H locs ls hl hP hD hS => lv_iload hx hb hd (lv_at hl q hq) (k H locs ls hl hP hD hS)
theorem ig_istore_n (hx : p.tables.exec = Jvm.exec) (hb : c.code = cc) {n : Fin 4} {i : Nat} {x : Int32} {lv' : List (Nat × Value)} (hd : decode cc pc = .ok (.istore_n n, 1)) (hi : (n : Nat) = i) (hn : i < nL) (hl' : (i, Value.int x) :: lv.filter (fun q => !(q.1 == i) && !(q.1 + 1 == i && q.2.category == 2)) = lv') (k : ig_W p l e R s m args below meth c D cl A H0 nL cells slots Q (pc + 1) lv' st ws) : ig_W p l e R s m args below meth c D cl A H0 nL cells slots Q pc lv (.int x :: st) ws := fun H locs ls hl hP hD hS => lv_istore_n hx hb hd hi hl hn hl' (fun ls' h' => k H locs ls' h' hP hD hS)
theorem ig_istore (hx : p.tables.exec = Jvm.exec) (hb : c.code = cc) {i : Nat} {x : Int32} {lv' : List (Nat × Value)} (hd : decode cc pc = .ok (.istore i, 2)) (hn : i < nL) (hl' : (i, Value.int x) :: lv.filter (fun q => !(q.1 == i) && !(q.1 + 1 == i && q.2.category == 2)) = lv') (k : ig_W p l e R s m args below meth c D cl A H0 nL cells slots Q (pc + 2) lv' st ws) : ig_W p l e R s m args below meth c D cl A H0 nL cells slots Q pc lv (.int x :: st) ws := fun H locs ls hl hP hD hS => lv_istore hx hb hd hl hn hl' (fun ls' h' => k H locs ls' h' hP hD hS)
theorem ig_lload_n (hx : p.tables.exec = Jvm.exec) (hb : c.code = cc) {n : Fin 4} {i : Nat} {x : Int64} (q : Nat) (hd : decode cc pc = .ok (.lload_n n, 1)) (hi : (n : Nat) = i) (hq : lv[q]? = some (i, .long x)) (k : ig_W p l e R s m args below meth c D cl A H0 nL cells slots Q (pc + 1) lv (.long x :: st) ws) : ig_W p l e R s m args below meth c D cl A H0 nL cells slots Q pc lv st ws := fun H locs ls hl hP hD hS => lv_lload_n hx hb hd hi (lv_at hl q hq) (k H locs ls hl hP hD hS)
theorem ig_lload (hx : p.tables.exec = Jvm.exec) (hb : c.code = cc) {i : Nat} {x : Int64} (q : Nat) (hd : decode cc pc = .ok (.lload i, 2)) (hq : lv[q]? = some (i, .long x)) (k : ig_W p l e R s m args below meth c D cl A H0 nL cells slots Q (pc + 2) lv (.long x :: st) ws) : ig_W p l e R s m args below meth c D cl A H0 nL cells slots Q pc lv st ws := fun H locs ls hl hP hD hS => lv_lload hx hb hd (lv_at hl q hq) (k H locs ls hl hP hD hS)
theorem ig_lstore_n (hx : p.tables.exec = Jvm.exec) (hb : c.code = cc) {n : Fin 4} {i : Nat} {x : Int64} {lv' : List (Nat × Value)} (hd : decode cc pc = .ok (.lstore_n n, 1)) (hi : (n : Nat) = i) (hn : i + 1 < nL) (hl' : (i, Value.long x) :: lv.filter (fun q => !(q.1 == i) && (!(q.1 == i + 1) && !(q.1 + 1 == i && q.2.category == 2))) = lv') (k : ig_W p l e R s m args below meth c D cl A H0 nL cells slots Q (pc + 1) lv' st ws) : ig_W p l e R s m args below meth c D cl A H0 nL cells slots Q pc lv (.long x :: st) ws := fun H locs ls hl hP hD hS => lv_lstore_n hx hb hd hi hl hn hl' (fun ls' h' => k H locs ls' h' hP hD hS)
theorem ig_lstore (hx : p.tables.exec = Jvm.exec) (hb : c.code = cc) {i : Nat} {x : Int64} {lv' : List (Nat × Value)} (hd : decode cc pc = .ok (.lstore i, 2)) (hn : i + 1 < nL) (hl' : (i, Value.long x) :: lv.filter (fun q => !(q.1 == i) && (!(q.1 == i + 1) && !(q.1 + 1 == i && q.2.category == 2))) = lv') (k : ig_W p l e R s m args below meth c D cl A H0 nL cells slots Q (pc + 2) lv' st ws) : ig_W p l e R s m args below meth c D cl A H0 nL cells slots Q pc lv (.long x :: st) ws := fun H locs ls hl hP hD hS => lv_lstore hx hb hd hl hn hl' (fun ls' h' => k H locs ls' h' hP hD hS)
theorem ig_aload_n (hx : p.tables.exec = Jvm.exec) (hb : c.code = cc) {n : Fin 4} {i : Nat} {x : Nat} (q : Nat) (hd : decode cc pc = .ok (.aload_n n, 1)) (hi : (n : Nat) = i) (hq : lv[q]? = some (i, .ref x)) (k : ig_W p l e R s m args below meth c D cl A H0 nL cells slots Q (pc + 1) lv (.ref x :: st) ws) : ig_W p l e R s m args below meth c D cl A H0 nL cells slots Q pc lv st ws := fun H locs ls hl hP hD hS => lv_aload_n hx hb hd hi (lv_at hl q hq) (k H locs ls hl hP hD hS)
theorem ig_aload (hx : p.tables.exec = Jvm.exec) (hb : c.code = cc) {i : Nat} {x : Nat} (q : Nat) (hd : decode cc pc = .ok (.aload i, 2)) (hq : lv[q]? = some (i, .ref x)) (k : ig_W p l e R s m args below meth c D cl A H0 nL cells slots Q (pc + 2) lv (.ref x :: st) ws) : ig_W p l e R s m args below meth c D cl A H0 nL cells slots Q pc lv st ws := fun H locs ls hl hP hD hS => lv_aload hx hb hd (lv_at hl q hq) (k H locs ls hl hP hD hS)
theorem ig_astore_n (hx : p.tables.exec = Jvm.exec) (hb : c.code = cc) {n : Fin 4} {i : Nat} {x : Nat} {lv' : List (Nat × Value)} (hd : decode cc pc = .ok (.astore_n n, 1)) (hi : (n : Nat) = i) (hn : i < nL) (hl' : (i, Value.ref x) :: lv.filter (fun q => !(q.1 == i) && !(q.1 + 1 == i && q.2.category == 2)) = lv') (k : ig_W p l e R s m args below meth c D cl A H0 nL cells slots Q (pc + 1) lv' st ws) : ig_W p l e R s m args below meth c D cl A H0 nL cells slots Q pc lv (.ref x :: st) ws := fun H locs ls hl hP hD hS => lv_astore_n hx hb hd hi hl hn hl' (fun ls' h' => k H locs ls' h' hP hD hS)
theorem ig_astore (hx : p.tables.exec = Jvm.exec) (hb : c.code = cc) {i : Nat} {x : Nat} {lv' : List (Nat × Value)} (hd : decode cc pc = .ok (.astore i, 2)) (hn : i < nL) (hl' : (i, Value.ref x) :: lv.filter (fun q => !(q.1 == i) && !(q.1 + 1 == i && q.2.category == 2)) = lv') (k : ig_W p l e R s m args below meth c D cl A H0 nL cells slots Q (pc + 2) lv' st ws) : ig_W p l e R s m args below meth c D cl A H0 nL cells slots Q pc lv (.ref x :: st) ws := fun H locs ls hl hP hD hS => lv_astore hx hb hd hl hn hl' (fun ls' h' => k H locs ls' h' hP hD hS)
theorem ig_iinc (hx : p.tables.exec = Jvm.exec) (hb : c.code = cc) {i : Nat} {n : Int} {x v : Int32} {lv' : List (Nat × Value)} (q : Nat) (hd : decode cc pc = .ok (.iinc i n, 3)) (hq : lv[q]? = some (i, .int x)) (hv : x + Int32.ofInt n = v) (hn : i < nL) (hl' : (i, Value.int v) :: lv.filter (fun q => !(q.1 == i) && !(q.1 + 1 == i && q.2.category == 2)) = lv') (k : ig_W p l e R s m args below meth c D cl A H0 nL cells slots Q (pc + 3) lv' st ws) : ig_W p l e R s m args below meth c D cl A H0 nL cells slots Q pc lv st ws := fun H locs ls hl hP hD hS => lv_iinc hx hb hd hl hq hv hn hl' (fun ls' h' => k H locs ls' h' hP hD hS)
theorem ig_iadd (hx : p.tables.exec = Jvm.exec) (hb : c.code = cc) {x y : Int32} (hd : decode cc pc = .ok (.iadd, 1)) (k : ig_W p l e R s m args below meth c D cl A H0 nL cells slots Q (pc + 1) lv (.int (x + y) :: st) ws) : ig_W p l e R s m args below meth c D cl A H0 nL cells slots Q pc lv (.int y :: .int x :: st) ws := fun H locs ls hl hP hD hS => lv_iadd hx hb hd (k H locs ls hl hP hD hS)
theorem ig_isub (hx : p.tables.exec = Jvm.exec) (hb : c.code = cc) {x y : Int32} (hd : decode cc pc = .ok (.isub, 1)) (k : ig_W p l e R s m args below meth c D cl A H0 nL cells slots Q (pc + 1) lv (.int (x - y) :: st) ws) : ig_W p l e R s m args below meth c D cl A H0 nL cells slots Q pc lv (.int y :: .int x :: st) ws := fun H locs ls hl hP hD hS => lv_isub hx hb hd (k H locs ls hl hP hD hS)
theorem ig_imul (hx : p.tables.exec = Jvm.exec) (hb : c.code = cc) {x y : Int32} (hd : decode cc pc = .ok (.imul, 1)) (k : ig_W p l e R s m args below meth c D cl A H0 nL cells slots Q (pc + 1) lv (.int (x * y) :: st) ws) : ig_W p l e R s m args below meth c D cl A H0 nL cells slots Q pc lv (.int y :: .int x :: st) ws := fun H locs ls hl hP hD hS => lv_imul hx hb hd (k H locs ls hl hP hD hS)
theorem ig_iand (hx : p.tables.exec = Jvm.exec) (hb : c.code = cc) {x y : Int32} (hd : decode cc pc = .ok (.iand, 1)) (k : ig_W p l e R s m args below meth c D cl A H0 nL cells slots Q (pc + 1) lv (.int (x &&& y) :: st) ws) : ig_W p l e R s m args below meth c D cl A H0 nL cells slots Q pc lv (.int y :: .int x :: st) ws := fun H locs ls hl hP hD hS => lv_iand hx hb hd (k H locs ls hl hP hD hS)
theorem ig_ior (hx : p.tables.exec = Jvm.exec) (hb : c.code = cc) {x y : Int32} (hd : decode cc pc = .ok (.ior, 1)) (k : ig_W p l e R s m args below meth c D cl A H0 nL cells slots Q (pc + 1) lv (.int (x ||| y) :: st) ws) : ig_W p l e R s m args below meth c D cl A H0 nL cells slots Q pc lv (.int y :: .int x :: st) ws := fun H locs ls hl hP hD hS => lv_ior hx hb hd (k H locs ls hl hP hD hS)
theorem ig_land (hx : p.tables.exec = Jvm.exec) (hb : c.code = cc) {x y : Int64} (hd : decode cc pc = .ok (.land, 1)) (k : ig_W p l e R s m args below meth c D cl A H0 nL cells slots Q (pc + 1) lv (.long (x &&& y) :: st) ws) : ig_W p l e R s m args below meth c D cl A H0 nL cells slots Q pc lv (.long y :: .long x :: st) ws := fun H locs ls hl hP hD hS => lv_land hx hb hd (k H locs ls hl hP hD hS)
theorem ig_lor (hx : p.tables.exec = Jvm.exec) (hb : c.code = cc) {x y : Int64} (hd : decode cc pc = .ok (.lor, 1)) (k : ig_W p l e R s m args below meth c D cl A H0 nL cells slots Q (pc + 1) lv (.long (x ||| y) :: st) ws) : ig_W p l e R s m args below meth c D cl A H0 nL cells slots Q pc lv (.long y :: .long x :: st) ws := fun H locs ls hl hP hD hS => lv_lor hx hb hd (k H locs ls hl hP hD hS)
theorem ig_iaddN (hx : p.tables.exec = Jvm.exec) (hb : c.code = cc) {x y : Int32} (a b : Nat) (ha : x = nI a) (hy : y = nI b) (hd : decode cc pc = .ok (.iadd, 1)) (k : ig_W p l e R s m args below meth c D cl A H0 nL cells slots Q (pc + 1) lv (.int (nI (a + b)) :: st) ws) : ig_W p l e R s m args below meth c D cl A H0 nL cells slots Q pc lv (.int y :: .int x :: st) ws := by
  subst ha
  subst hy
  intro H locs ls hl hP hD hS
  have k := k H locs ls hl hP hD hS
  rw [← nI_add] at k
  exact lv_iadd hx hb hd k
theorem ig_isubN (hx : p.tables.exec = Jvm.exec) (hb : c.code = cc) {x y : Int32} (a b : Nat) (ha : x = nI a) (hy : y = nI b) (h : b ≤ a) (hd : decode cc pc = .ok (.isub, 1)) (k : ig_W p l e R s m args below meth c D cl A H0 nL cells slots Q (pc + 1) lv (.int (nI (a - b)) :: st) ws) : ig_W p l e R s m args below meth c D cl A H0 nL cells slots Q pc lv (.int y :: .int x :: st) ws := by
  subst ha
  subst hy
  intro H locs ls hl hP hD hS
  have k := k H locs ls hl hP hD hS
  rw [← pk_sub h] at k
  exact lv_isub hx hb hd k
theorem ig_imulN (hx : p.tables.exec = Jvm.exec) (hb : c.code = cc) {x y : Int32} (a b : Nat) (ha : x = nI a) (hy : y = nI b) (hd : decode cc pc = .ok (.imul, 1)) (k : ig_W p l e R s m args below meth c D cl A H0 nL cells slots Q (pc + 1) lv (.int (nI (a * b)) :: st) ws) : ig_W p l e R s m args below meth c D cl A H0 nL cells slots Q pc lv (.int y :: .int x :: st) ws := by
  subst ha
  subst hy
  intro H locs ls hl hP hD hS
  have k := k H locs ls hl hP hD hS
  rw [← pk_mul] at k
  exact lv_imul hx hb hd k
theorem ig_iandN (hx : p.tables.exec = Jvm.exec) (hb : c.code = cc) {x y : Int32} (a b : Nat) (ha : x = nI a) (hy : y = nI b) (hd : decode cc pc = .ok (.iand, 1)) (k : ig_W p l e R s m args below meth c D cl A H0 nL cells slots Q (pc + 1) lv (.int (nI (a &&& b)) :: st) ws) : ig_W p l e R s m args below meth c D cl A H0 nL cells slots Q pc lv (.int y :: .int x :: st) ws := by
  subst ha
  subst hy
  intro H locs ls hl hP hD hS
  have k := k H locs ls hl hP hD hS
  rw [← ig_and] at k
  exact lv_iand hx hb hd k
theorem ig_iorN (hx : p.tables.exec = Jvm.exec) (hb : c.code = cc) {x y : Int32} (a b : Nat) (ha : x = nI a) (hy : y = nI b) (hd : decode cc pc = .ok (.ior, 1)) (k : ig_W p l e R s m args below meth c D cl A H0 nL cells slots Q (pc + 1) lv (.int (nI (a ||| b)) :: st) ws) : ig_W p l e R s m args below meth c D cl A H0 nL cells slots Q pc lv (.int y :: .int x :: st) ws := by
  subst ha
  subst hy
  intro H locs ls hl hP hD hS
  have k := k H locs ls hl hP hD hS
  rw [← ig_or] at k
  exact lv_ior hx hb hd k
theorem ig_iremN (hx : p.tables.exec = Jvm.exec) (hb : c.code = cc) {x y : Int32} (a b : Nat) (ha : x = nI a) (hy : y = nI b) (h1 : a < 2 ^ 31) (h2 : 0 < b) (h3 : b < 2 ^ 31) (hd : decode cc pc = .ok (.irem, 1)) (k : ig_W p l e R s m args below meth c D cl A H0 nL cells slots Q (pc + 1) lv (.int (nI (a % b)) :: st) ws) : ig_W p l e R s m args below meth c D cl A H0 nL cells slots Q pc lv (.int y :: .int x :: st) ws := by
  subst ha
  subst hy
  intro H locs ls hl hP hD hS
  have k := k H locs ls hl hP hD hS
  rw [← pk_rem h1 h2 h3] at k
  exact lv_irem hx hb hd (ig_ne0 h2 h3) k
theorem ig_i2c (hx : p.tables.exec = Jvm.exec) (hb : c.code = cc) {x v : Int32} (hd : decode cc pc = .ok (.i2c, 1)) (hv : (x.toUInt32 % 65536).toInt32 = v) (k : ig_W p l e R s m args below meth c D cl A H0 nL cells slots Q (pc + 1) lv (.int v :: st) ws) : ig_W p l e R s m args below meth c D cl A H0 nL cells slots Q pc lv (.int x :: st) ws := fun H locs ls hl hP hD hS => lv_i2c hx hb hd hv (k H locs ls hl hP hD hS)
theorem ig_i2l (hx : p.tables.exec = Jvm.exec) (hb : c.code = cc) {x : Int32} {v : Int64} (hd : decode cc pc = .ok (.i2l, 1)) (hv : x.toInt64 = v) (k : ig_W p l e R s m args below meth c D cl A H0 nL cells slots Q (pc + 1) lv (.long v :: st) ws) : ig_W p l e R s m args below meth c D cl A H0 nL cells slots Q pc lv (.int x :: st) ws := fun H locs ls hl hP hD hS => lv_i2l hx hb hd hv (k H locs ls hl hP hD hS)
theorem ig_l2i (hx : p.tables.exec = Jvm.exec) (hb : c.code = cc) {x : Int64} {v : Int32} (hd : decode cc pc = .ok (.l2i, 1)) (hv : x.toInt32 = v) (k : ig_W p l e R s m args below meth c D cl A H0 nL cells slots Q (pc + 1) lv (.int v :: st) ws) : ig_W p l e R s m args below meth c D cl A H0 nL cells slots Q pc lv (.long x :: st) ws := fun H locs ls hl hP hD hS => lv_l2i hx hb hd hv (k H locs ls hl hP hD hS)
theorem ig_lushr (hx : p.tables.exec = Jvm.exec) (hb : c.code = cc) {x v : Int64} {y : Int32} (hd : decode cc pc = .ok (.lushr, 1)) (hv : (x.toUInt64 >>> (y.toInt64.toUInt64 &&& Int64.toUInt64 63)).toInt64 = v) (k : ig_W p l e R s m args below meth c D cl A H0 nL cells slots Q (pc + 1) lv (.long v :: st) ws) : ig_W p l e R s m args below meth c D cl A H0 nL cells slots Q pc lv (.int y :: .long x :: st) ws := fun H locs ls hl hP hD hS => lv_lushr hx hb hd hv (k H locs ls hl hP hD hS)
theorem ig_lshl (hx : p.tables.exec = Jvm.exec) (hb : c.code = cc) {x v : Int64} {y : Int32} (hd : decode cc pc = .ok (.lshl, 1)) (hv : x <<< (y.toInt64 &&& 63) = v) (k : ig_W p l e R s m args below meth c D cl A H0 nL cells slots Q (pc + 1) lv (.long v :: st) ws) : ig_W p l e R s m args below meth c D cl A H0 nL cells slots Q pc lv (.int y :: .long x :: st) ws := fun H locs ls hl hP hD hS => lv_lshl hx hb hd hv (k H locs ls hl hP hD hS)
theorem ig_lshr (hx : p.tables.exec = Jvm.exec) (hb : c.code = cc) {x v : Int64} {y : Int32} (hd : decode cc pc = .ok (.lshr, 1)) (hv : x >>> (y.toInt64 &&& 63) = v) (k : ig_W p l e R s m args below meth c D cl A H0 nL cells slots Q (pc + 1) lv (.long v :: st) ws) : ig_W p l e R s m args below meth c D cl A H0 nL cells slots Q pc lv (.int y :: .long x :: st) ws := fun H locs ls hl hP hD hS => lv_lshr hx hb hd hv (k H locs ls hl hP hD hS)
theorem ig_ldc2 (hx : p.tables.exec = Jvm.exec) (hb : c.code = cc) {own : String} {index : Nat} {v : Int64} (hd : decode cc pc = .ok (.ldc2_w index, 3)) (hown : s.vm.findClass own = some m.cls) (hc : (Jvm.Cond.constantLong own index v).before args s = true) (k : ig_W p l e R s m args below meth c D cl A H0 nL cells slots Q (pc + 3) lv (.long v :: st) ws) : ig_W p l e R s m args below meth c D cl A H0 nL cells slots Q pc lv st ws := fun H locs ls hl hP hD hS => lv_ldc2 hx hb hown hc hd (k H locs ls hl hP hD hS)
theorem ig_ldc (hx : p.tables.exec = Jvm.exec) (hb : c.code = cc) {own : String} {index : Nat} {v : Int32} (hd : decode cc pc = .ok (.ldc index, 2)) (hown : s.vm.findClass own = some m.cls) (hc : (Jvm.Cond.constant own index v).before args s = true) (k : ig_W p l e R s m args below meth c D cl A H0 nL cells slots Q (pc + 2) lv (.int v :: st) ws) : ig_W p l e R s m args below meth c D cl A H0 nL cells slots Q pc lv st ws := fun H locs ls hl hP hD hS => lv_ldc hx hb hown hc hd (k H locs ls hl hP hD hS)
theorem ig_dup (hx : p.tables.exec = Jvm.exec) (hb : c.code = cc) {v : Value} (hd : decode cc pc = .ok (.dup, 1)) (hv : v.category = 1) (k : ig_W p l e R s m args below meth c D cl A H0 nL cells slots Q (pc + 1) lv (v :: v :: st) ws) : ig_W p l e R s m args below meth c D cl A H0 nL cells slots Q pc lv (v :: st) ws := fun H locs ls hl hP hD hS => lv_dup hx hb hd hv (k H locs ls hl hP hD hS)
theorem ig_pop (hx : p.tables.exec = Jvm.exec) (hb : c.code = cc) {v : Value} (hd : decode cc pc = .ok (.pop, 1)) (hv : v.category = 1) (k : ig_W p l e R s m args below meth c D cl A H0 nL cells slots Q (pc + 1) lv st ws) : ig_W p l e R s m args below meth c D cl A H0 nL cells slots Q pc lv (v :: st) ws := fun H locs ls hl hP hD hS => lv_pop hx hb hd hv (k H locs ls hl hP hD hS)
theorem ig_dup_x1 (hx : p.tables.exec = Jvm.exec) (hb : c.code = cc) {v w : Value} (hd : decode cc pc = .ok (.dup_x1, 1)) (hv : v.category = 1) (hw : w.category = 1) (k : ig_W p l e R s m args below meth c D cl A H0 nL cells slots Q (pc + 1) lv (v :: w :: v :: st) ws) : ig_W p l e R s m args below meth c D cl A H0 nL cells slots Q pc lv (v :: w :: st) ws := fun H locs ls hl hP hD hS => lv_dup_x1 hx hb hd hv hw (k H locs ls hl hP hD hS)
theorem ig_dup2 (hx : p.tables.exec = Jvm.exec) (hb : c.code = cc) {v w : Value} (hd : decode cc pc = .ok (.dup2, 1)) (hv : v.category = 1) (hw : w.category = 1) (k : ig_W p l e R s m args below meth c D cl A H0 nL cells slots Q (pc + 1) lv (v :: w :: v :: w :: st) ws) : ig_W p l e R s m args below meth c D cl A H0 nL cells slots Q pc lv (v :: w :: st) ws := fun H locs ls hl hP hD hS => lv_dup2_11 hx hb hd hv hw (k H locs ls hl hP hD hS)
theorem ig_lcmp (hx : p.tables.exec = Jvm.exec) (hb : c.code = cc) {x y : Int64} (hd : decode cc pc = .ok (.lcmp, 1)) (k : ig_W p l e R s m args below meth c D cl A H0 nL cells slots Q (pc + 1) lv (.int (lg_cmp x y) :: st) ws) : ig_W p l e R s m args below meth c D cl A H0 nL cells slots Q pc lv (.long y :: .long x :: st) ws := fun H locs ls hl hP hD hS => W.lcmp hx hb hd (k H locs ls hl hP hD hS)
theorem ig_goto (hx : p.tables.exec = Jvm.exec) (hb : c.code = cc) {off : Int} {tgt : Nat} (hd : decode cc pc = .ok (.goto off, 3)) (ht : (pc : Int) + off = (tgt : Int)) (k : ig_W p l e R s m args below meth c D cl A H0 nL cells slots Q tgt lv st ws) : ig_W p l e R s m args below meth c D cl A H0 nL cells slots Q pc lv st ws := fun H locs ls hl hP hD hS => lv_goto hx hb hd ht (k H locs ls hl hP hD hS)
theorem ig_icmp_eq (hx : p.tables.exec = Jvm.exec) (hb : c.code = cc) {x y : Int32} {off : Int} {tgt : Nat} (hd : decode cc pc = .ok (.if_icmp .eq off, 3)) (ht : (pc : Int) + off = (tgt : Int)) (kt : x = y → ig_W p l e R s m args below meth c D cl A H0 nL cells slots Q tgt lv st ws) (kf : ¬ x = y → ig_W p l e R s m args below meth c D cl A H0 nL cells slots Q (pc + 3) lv st ws) : ig_W p l e R s m args below meth c D cl A H0 nL cells slots Q pc lv (.int y :: .int x :: st) ws := fun H locs ls hl hP hD hS => lv_icmp_eq hx hb hd ht (fun h => kt h H locs ls hl hP hD hS) (fun h => kf h H locs ls hl hP hD hS)
theorem ig_if_eq (hx : p.tables.exec = Jvm.exec) (hb : c.code = cc) {x : Int32} {off : Int} {tgt : Nat} (hd : decode cc pc = .ok (.ifCond .eq off, 3)) (ht : (pc : Int) + off = (tgt : Int)) (kt : x = 0 → ig_W p l e R s m args below meth c D cl A H0 nL cells slots Q tgt lv st ws) (kf : ¬ x = 0 → ig_W p l e R s m args below meth c D cl A H0 nL cells slots Q (pc + 3) lv st ws) : ig_W p l e R s m args below meth c D cl A H0 nL cells slots Q pc lv (.int x :: st) ws := fun H locs ls hl hP hD hS => lv_if_eq hx hb hd ht (fun h => kt h H locs ls hl hP hD hS) (fun h => kf h H locs ls hl hP hD hS)
theorem ig_icmp_eqN (hx : p.tables.exec = Jvm.exec) (hb : c.code = cc) {x y : Int32} (a b : Nat) (ha : x = nI a) (hy : y = nI b) {off : Int} {tgt : Nat} (hd : decode cc pc = .ok (.if_icmp .eq off, 3)) (ht : (pc : Int) + off = (tgt : Int)) (h1 : a < 2147483648) (h2 : b < 2147483648) (kt : a = b → ig_W p l e R s m args below meth c D cl A H0 nL cells slots Q tgt lv st ws) (kf : ¬ a = b → ig_W p l e R s m args below meth c D cl A H0 nL cells slots Q (pc + 3) lv st ws) : ig_W p l e R s m args below meth c D cl A H0 nL cells slots Q pc lv (.int y :: .int x :: st) ws := by
  subst ha
  subst hy
  exact ig_icmp_eq hx hb hd ht (fun h => kt ((ig_eq h1 h2).mp h)) (fun h => kf (fun q => h ((ig_eq h1 h2).mpr q)))
theorem ig_icmp_ne (hx : p.tables.exec = Jvm.exec) (hb : c.code = cc) {x y : Int32} {off : Int} {tgt : Nat} (hd : decode cc pc = .ok (.if_icmp .ne off, 3)) (ht : (pc : Int) + off = (tgt : Int)) (kt : ¬ x = y → ig_W p l e R s m args below meth c D cl A H0 nL cells slots Q tgt lv st ws) (kf : x = y → ig_W p l e R s m args below meth c D cl A H0 nL cells slots Q (pc + 3) lv st ws) : ig_W p l e R s m args below meth c D cl A H0 nL cells slots Q pc lv (.int y :: .int x :: st) ws := fun H locs ls hl hP hD hS => lv_icmp_ne hx hb hd ht (fun h => kt h H locs ls hl hP hD hS) (fun h => kf h H locs ls hl hP hD hS)
theorem ig_if_ne (hx : p.tables.exec = Jvm.exec) (hb : c.code = cc) {x : Int32} {off : Int} {tgt : Nat} (hd : decode cc pc = .ok (.ifCond .ne off, 3)) (ht : (pc : Int) + off = (tgt : Int)) (kt : ¬ x = 0 → ig_W p l e R s m args below meth c D cl A H0 nL cells slots Q tgt lv st ws) (kf : x = 0 → ig_W p l e R s m args below meth c D cl A H0 nL cells slots Q (pc + 3) lv st ws) : ig_W p l e R s m args below meth c D cl A H0 nL cells slots Q pc lv (.int x :: st) ws := fun H locs ls hl hP hD hS => lv_if_ne hx hb hd ht (fun h => kt h H locs ls hl hP hD hS) (fun h => kf h H locs ls hl hP hD hS)
theorem ig_icmp_neN (hx : p.tables.exec = Jvm.exec) (hb : c.code = cc) {x y : Int32} (a b : Nat) (ha : x = nI a) (hy : y = nI b) {off : Int} {tgt : Nat} (hd : decode cc pc = .ok (.if_icmp .ne off, 3)) (ht : (pc : Int) + off = (tgt : Int)) (h1 : a < 2147483648) (h2 : b < 2147483648) (kt : ¬ a = b → ig_W p l e R s m args below meth c D cl A H0 nL cells slots Q tgt lv st ws) (kf : a = b → ig_W p l e R s m args below meth c D cl A H0 nL cells slots Q (pc + 3) lv st ws) : ig_W p l e R s m args below meth c D cl A H0 nL cells slots Q pc lv (.int y :: .int x :: st) ws := by
  subst ha
  subst hy
  exact ig_icmp_ne hx hb hd ht (fun h => kt (fun q => h ((ig_eq h1 h2).mpr q))) (fun h => kf ((ig_eq h1 h2).mp h))
theorem ig_icmp_lt (hx : p.tables.exec = Jvm.exec) (hb : c.code = cc) {x y : Int32} {off : Int} {tgt : Nat} (hd : decode cc pc = .ok (.if_icmp .lt off, 3)) (ht : (pc : Int) + off = (tgt : Int)) (kt : x < y → ig_W p l e R s m args below meth c D cl A H0 nL cells slots Q tgt lv st ws) (kf : ¬ x < y → ig_W p l e R s m args below meth c D cl A H0 nL cells slots Q (pc + 3) lv st ws) : ig_W p l e R s m args below meth c D cl A H0 nL cells slots Q pc lv (.int y :: .int x :: st) ws := fun H locs ls hl hP hD hS => lv_icmp_lt hx hb hd ht (fun h => kt h H locs ls hl hP hD hS) (fun h => kf h H locs ls hl hP hD hS)
theorem ig_if_lt (hx : p.tables.exec = Jvm.exec) (hb : c.code = cc) {x : Int32} {off : Int} {tgt : Nat} (hd : decode cc pc = .ok (.ifCond .lt off, 3)) (ht : (pc : Int) + off = (tgt : Int)) (kt : x < 0 → ig_W p l e R s m args below meth c D cl A H0 nL cells slots Q tgt lv st ws) (kf : ¬ x < 0 → ig_W p l e R s m args below meth c D cl A H0 nL cells slots Q (pc + 3) lv st ws) : ig_W p l e R s m args below meth c D cl A H0 nL cells slots Q pc lv (.int x :: st) ws := fun H locs ls hl hP hD hS => lv_if_lt hx hb hd ht (fun h => kt h H locs ls hl hP hD hS) (fun h => kf h H locs ls hl hP hD hS)
theorem ig_icmp_ltN (hx : p.tables.exec = Jvm.exec) (hb : c.code = cc) {x y : Int32} (a b : Nat) (ha : x = nI a) (hy : y = nI b) {off : Int} {tgt : Nat} (hd : decode cc pc = .ok (.if_icmp .lt off, 3)) (ht : (pc : Int) + off = (tgt : Int)) (h1 : a < 2147483648) (h2 : b < 2147483648) (kt : a < b → ig_W p l e R s m args below meth c D cl A H0 nL cells slots Q tgt lv st ws) (kf : ¬ a < b → ig_W p l e R s m args below meth c D cl A H0 nL cells slots Q (pc + 3) lv st ws) : ig_W p l e R s m args below meth c D cl A H0 nL cells slots Q pc lv (.int y :: .int x :: st) ws := by
  subst ha
  subst hy
  exact ig_icmp_lt hx hb hd ht (fun h => kt ((ig_lt h1 h2).mp h)) (fun h => kf (fun q => h ((ig_lt h1 h2).mpr q)))
theorem ig_icmp_ge (hx : p.tables.exec = Jvm.exec) (hb : c.code = cc) {x y : Int32} {off : Int} {tgt : Nat} (hd : decode cc pc = .ok (.if_icmp .ge off, 3)) (ht : (pc : Int) + off = (tgt : Int)) (kt : y ≤ x → ig_W p l e R s m args below meth c D cl A H0 nL cells slots Q tgt lv st ws) (kf : ¬ y ≤ x → ig_W p l e R s m args below meth c D cl A H0 nL cells slots Q (pc + 3) lv st ws) : ig_W p l e R s m args below meth c D cl A H0 nL cells slots Q pc lv (.int y :: .int x :: st) ws := fun H locs ls hl hP hD hS => lv_icmp_ge hx hb hd ht (fun h => kt h H locs ls hl hP hD hS) (fun h => kf h H locs ls hl hP hD hS)
theorem ig_if_ge (hx : p.tables.exec = Jvm.exec) (hb : c.code = cc) {x : Int32} {off : Int} {tgt : Nat} (hd : decode cc pc = .ok (.ifCond .ge off, 3)) (ht : (pc : Int) + off = (tgt : Int)) (kt : 0 ≤ x → ig_W p l e R s m args below meth c D cl A H0 nL cells slots Q tgt lv st ws) (kf : ¬ 0 ≤ x → ig_W p l e R s m args below meth c D cl A H0 nL cells slots Q (pc + 3) lv st ws) : ig_W p l e R s m args below meth c D cl A H0 nL cells slots Q pc lv (.int x :: st) ws := fun H locs ls hl hP hD hS => lv_if_ge hx hb hd ht (fun h => kt h H locs ls hl hP hD hS) (fun h => kf h H locs ls hl hP hD hS)
theorem ig_icmp_geN (hx : p.tables.exec = Jvm.exec) (hb : c.code = cc) {x y : Int32} (a b : Nat) (ha : x = nI a) (hy : y = nI b) {off : Int} {tgt : Nat} (hd : decode cc pc = .ok (.if_icmp .ge off, 3)) (ht : (pc : Int) + off = (tgt : Int)) (h1 : a < 2147483648) (h2 : b < 2147483648) (kt : b ≤ a → ig_W p l e R s m args below meth c D cl A H0 nL cells slots Q tgt lv st ws) (kf : ¬ b ≤ a → ig_W p l e R s m args below meth c D cl A H0 nL cells slots Q (pc + 3) lv st ws) : ig_W p l e R s m args below meth c D cl A H0 nL cells slots Q pc lv (.int y :: .int x :: st) ws := by
  subst ha
  subst hy
  exact ig_icmp_ge hx hb hd ht (fun h => kt ((ig_le h2 h1).mp h)) (fun h => kf (fun q => h ((ig_le h2 h1).mpr q)))
theorem ig_icmp_gt (hx : p.tables.exec = Jvm.exec) (hb : c.code = cc) {x y : Int32} {off : Int} {tgt : Nat} (hd : decode cc pc = .ok (.if_icmp .gt off, 3)) (ht : (pc : Int) + off = (tgt : Int)) (kt : y < x → ig_W p l e R s m args below meth c D cl A H0 nL cells slots Q tgt lv st ws) (kf : ¬ y < x → ig_W p l e R s m args below meth c D cl A H0 nL cells slots Q (pc + 3) lv st ws) : ig_W p l e R s m args below meth c D cl A H0 nL cells slots Q pc lv (.int y :: .int x :: st) ws := fun H locs ls hl hP hD hS => lv_icmp_gt hx hb hd ht (fun h => kt h H locs ls hl hP hD hS) (fun h => kf h H locs ls hl hP hD hS)
theorem ig_if_gt (hx : p.tables.exec = Jvm.exec) (hb : c.code = cc) {x : Int32} {off : Int} {tgt : Nat} (hd : decode cc pc = .ok (.ifCond .gt off, 3)) (ht : (pc : Int) + off = (tgt : Int)) (kt : 0 < x → ig_W p l e R s m args below meth c D cl A H0 nL cells slots Q tgt lv st ws) (kf : ¬ 0 < x → ig_W p l e R s m args below meth c D cl A H0 nL cells slots Q (pc + 3) lv st ws) : ig_W p l e R s m args below meth c D cl A H0 nL cells slots Q pc lv (.int x :: st) ws := fun H locs ls hl hP hD hS => lv_if_gt hx hb hd ht (fun h => kt h H locs ls hl hP hD hS) (fun h => kf h H locs ls hl hP hD hS)
theorem ig_icmp_gtN (hx : p.tables.exec = Jvm.exec) (hb : c.code = cc) {x y : Int32} (a b : Nat) (ha : x = nI a) (hy : y = nI b) {off : Int} {tgt : Nat} (hd : decode cc pc = .ok (.if_icmp .gt off, 3)) (ht : (pc : Int) + off = (tgt : Int)) (h1 : a < 2147483648) (h2 : b < 2147483648) (kt : b < a → ig_W p l e R s m args below meth c D cl A H0 nL cells slots Q tgt lv st ws) (kf : ¬ b < a → ig_W p l e R s m args below meth c D cl A H0 nL cells slots Q (pc + 3) lv st ws) : ig_W p l e R s m args below meth c D cl A H0 nL cells slots Q pc lv (.int y :: .int x :: st) ws := by
  subst ha
  subst hy
  exact ig_icmp_gt hx hb hd ht (fun h => kt ((ig_lt h2 h1).mp h)) (fun h => kf (fun q => h ((ig_lt h2 h1).mpr q)))
theorem ig_icmp_le (hx : p.tables.exec = Jvm.exec) (hb : c.code = cc) {x y : Int32} {off : Int} {tgt : Nat} (hd : decode cc pc = .ok (.if_icmp .le off, 3)) (ht : (pc : Int) + off = (tgt : Int)) (kt : x ≤ y → ig_W p l e R s m args below meth c D cl A H0 nL cells slots Q tgt lv st ws) (kf : ¬ x ≤ y → ig_W p l e R s m args below meth c D cl A H0 nL cells slots Q (pc + 3) lv st ws) : ig_W p l e R s m args below meth c D cl A H0 nL cells slots Q pc lv (.int y :: .int x :: st) ws := fun H locs ls hl hP hD hS => lv_icmp_le hx hb hd ht (fun h => kt h H locs ls hl hP hD hS) (fun h => kf h H locs ls hl hP hD hS)
theorem ig_if_le (hx : p.tables.exec = Jvm.exec) (hb : c.code = cc) {x : Int32} {off : Int} {tgt : Nat} (hd : decode cc pc = .ok (.ifCond .le off, 3)) (ht : (pc : Int) + off = (tgt : Int)) (kt : x ≤ 0 → ig_W p l e R s m args below meth c D cl A H0 nL cells slots Q tgt lv st ws) (kf : ¬ x ≤ 0 → ig_W p l e R s m args below meth c D cl A H0 nL cells slots Q (pc + 3) lv st ws) : ig_W p l e R s m args below meth c D cl A H0 nL cells slots Q pc lv (.int x :: st) ws := fun H locs ls hl hP hD hS => lv_if_le hx hb hd ht (fun h => kt h H locs ls hl hP hD hS) (fun h => kf h H locs ls hl hP hD hS)
theorem ig_icmp_leN (hx : p.tables.exec = Jvm.exec) (hb : c.code = cc) {x y : Int32} (a b : Nat) (ha : x = nI a) (hy : y = nI b) {off : Int} {tgt : Nat} (hd : decode cc pc = .ok (.if_icmp .le off, 3)) (ht : (pc : Int) + off = (tgt : Int)) (h1 : a < 2147483648) (h2 : b < 2147483648) (kt : a ≤ b → ig_W p l e R s m args below meth c D cl A H0 nL cells slots Q tgt lv st ws) (kf : ¬ a ≤ b → ig_W p l e R s m args below meth c D cl A H0 nL cells slots Q (pc + 3) lv st ws) : ig_W p l e R s m args below meth c D cl A H0 nL cells slots Q pc lv (.int y :: .int x :: st) ws := by
  subst ha
  subst hy
  exact ig_icmp_le hx hb hd ht (fun h => kt ((ig_le h1 h2).mp h)) (fun h => kf (fun q => h ((ig_le h1 h2).mpr q)))
theorem ig_if_eqN (hx : p.tables.exec = Jvm.exec) (hb : c.code = cc) {x : Int32} (a : Nat) (ha : x = nI a) {off : Int} {tgt : Nat} (hd : decode cc pc = .ok (.ifCond .eq off, 3)) (ht : (pc : Int) + off = (tgt : Int)) (h1 : a < 2147483648) (kt : a = 0 → ig_W p l e R s m args below meth c D cl A H0 nL cells slots Q tgt lv st ws) (kf : ¬ a = 0 → ig_W p l e R s m args below meth c D cl A H0 nL cells slots Q (pc + 3) lv st ws) : ig_W p l e R s m args below meth c D cl A H0 nL cells slots Q pc lv (.int x :: st) ws := by
  subst ha
  exact ig_if_eq hx hb hd ht (fun h => kt ((ig_eq (b := 0) h1 (by decide)).mp h)) (fun h => kf (fun q => h ((ig_eq (b := 0) h1 (by decide)).mpr q)))
theorem ig_if_neN (hx : p.tables.exec = Jvm.exec) (hb : c.code = cc) {x : Int32} (a : Nat) (ha : x = nI a) {off : Int} {tgt : Nat} (hd : decode cc pc = .ok (.ifCond .ne off, 3)) (ht : (pc : Int) + off = (tgt : Int)) (h1 : a < 2147483648) (kt : ¬ a = 0 → ig_W p l e R s m args below meth c D cl A H0 nL cells slots Q tgt lv st ws) (kf : a = 0 → ig_W p l e R s m args below meth c D cl A H0 nL cells slots Q (pc + 3) lv st ws) : ig_W p l e R s m args below meth c D cl A H0 nL cells slots Q pc lv (.int x :: st) ws := by
  subst ha
  exact ig_if_ne hx hb hd ht (fun h => kt (fun q => h ((ig_eq (b := 0) h1 (by decide)).mpr q))) (fun h => kf ((ig_eq (b := 0) h1 (by decide)).mp h))
theorem ig_if_gtN (hx : p.tables.exec = Jvm.exec) (hb : c.code = cc) {x : Int32} (a : Nat) (ha : x = nI a) {off : Int} {tgt : Nat} (hd : decode cc pc = .ok (.ifCond .gt off, 3)) (ht : (pc : Int) + off = (tgt : Int)) (h1 : a < 2147483648) (kt : 0 < a → ig_W p l e R s m args below meth c D cl A H0 nL cells slots Q tgt lv st ws) (kf : ¬ 0 < a → ig_W p l e R s m args below meth c D cl A H0 nL cells slots Q (pc + 3) lv st ws) : ig_W p l e R s m args below meth c D cl A H0 nL cells slots Q pc lv (.int x :: st) ws := by
  subst ha
  exact ig_if_gt hx hb hd ht (fun h => kt ((ig_lt (a := 0) (by decide) h1).mp h)) (fun h => kf (fun q => h ((ig_lt (a := 0) (by decide) h1).mpr q)))
theorem ig_if_leN (hx : p.tables.exec = Jvm.exec) (hb : c.code = cc) {x : Int32} (a : Nat) (ha : x = nI a) {off : Int} {tgt : Nat} (hd : decode cc pc = .ok (.ifCond .le off, 3)) (ht : (pc : Int) + off = (tgt : Int)) (h1 : a < 2147483648) (kt : a ≤ 0 → ig_W p l e R s m args below meth c D cl A H0 nL cells slots Q tgt lv st ws) (kf : ¬ a ≤ 0 → ig_W p l e R s m args below meth c D cl A H0 nL cells slots Q (pc + 3) lv st ws) : ig_W p l e R s m args below meth c D cl A H0 nL cells slots Q pc lv (.int x :: st) ws := by
  subst ha
  exact ig_if_le hx hb hd ht (fun h => kt ((ig_le (b := 0) h1 (by decide)).mp h)) (fun h => kf (fun q => h ((ig_le (b := 0) h1 (by decide)).mpr q)))
theorem ig_if_eqB (hx : p.tables.exec = Jvm.exec) (hb : c.code = cc) {x : Int32} (b : Bool) (ha : x = bI b) {off : Int} {tgt : Nat} (hd : decode cc pc = .ok (.ifCond .eq off, 3)) (ht : (pc : Int) + off = (tgt : Int)) (kt : b = false → ig_W p l e R s m args below meth c D cl A H0 nL cells slots Q tgt lv st ws) (kf : b = true → ig_W p l e R s m args below meth c D cl A H0 nL cells slots Q (pc + 3) lv st ws) : ig_W p l e R s m args below meth c D cl A H0 nL cells slots Q pc lv (.int x :: st) ws := by
  subst ha
  exact ig_if_eq hx hb hd ht (fun h => kt (bI_0.mp h)) (fun h => kf (bI_1.mp h))
theorem ig_if_neB (hx : p.tables.exec = Jvm.exec) (hb : c.code = cc) {x : Int32} (b : Bool) (ha : x = bI b) {off : Int} {tgt : Nat} (hd : decode cc pc = .ok (.ifCond .ne off, 3)) (ht : (pc : Int) + off = (tgt : Int)) (kt : b = true → ig_W p l e R s m args below meth c D cl A H0 nL cells slots Q tgt lv st ws) (kf : b = false → ig_W p l e R s m args below meth c D cl A H0 nL cells slots Q (pc + 3) lv st ws) : ig_W p l e R s m args below meth c D cl A H0 nL cells slots Q pc lv (.int x :: st) ws := by
  subst ha
  exact ig_if_ne hx hb hd ht (fun h => kt (bI_1.mp h)) (fun h => kf (bI_0.mp h))
theorem ig_icmp_eqB (hx : p.tables.exec = Jvm.exec) (hb : c.code = cc) {x y : Int32} (a b : Bool) (ha : x = bI a) (hy : y = bI b) {off : Int} {tgt : Nat} (hd : decode cc pc = .ok (.if_icmp .eq off, 3)) (ht : (pc : Int) + off = (tgt : Int)) (kt : a = b → ig_W p l e R s m args below meth c D cl A H0 nL cells slots Q tgt lv st ws) (kf : ¬ a = b → ig_W p l e R s m args below meth c D cl A H0 nL cells slots Q (pc + 3) lv st ws) : ig_W p l e R s m args below meth c D cl A H0 nL cells slots Q pc lv (.int y :: .int x :: st) ws := by
  subst ha
  subst hy
  exact ig_icmp_eq hx hb hd ht (fun h => kt (bI_inj h)) (fun h => kf (fun q => h (congrArg bI q)))
theorem ig_icmp_neB (hx : p.tables.exec = Jvm.exec) (hb : c.code = cc) {x y : Int32} (a b : Bool) (ha : x = bI a) (hy : y = bI b) {off : Int} {tgt : Nat} (hd : decode cc pc = .ok (.if_icmp .ne off, 3)) (ht : (pc : Int) + off = (tgt : Int)) (kt : ¬ a = b → ig_W p l e R s m args below meth c D cl A H0 nL cells slots Q tgt lv st ws) (kf : a = b → ig_W p l e R s m args below meth c D cl A H0 nL cells slots Q (pc + 3) lv st ws) : ig_W p l e R s m args below meth c D cl A H0 nL cells slots Q pc lv (.int y :: .int x :: st) ws := by
  subst ha
  subst hy
  exact ig_icmp_ne hx hb hd ht (fun h => kt (fun q => h (congrArg bI q))) (fun h => kf (bI_inj h))
theorem ig_if_ltP (hx : p.tables.exec = Jvm.exec) (hb : c.code = cc) {x : Int32} (a : Nat) (ha : x = nI a - 1) {off : Int} {tgt : Nat} (hd : decode cc pc = .ok (.ifCond .lt off, 3)) (ht : (pc : Int) + off = (tgt : Int)) (h1 : a < 2147483648) (kt : a = 0 → ig_W p l e R s m args below meth c D cl A H0 nL cells slots Q tgt lv st ws) (kf : ∀ j, a = j + 1 → ig_W p l e R s m args below meth c D cl A H0 nL cells slots Q (pc + 3) lv st ws) : ig_W p l e R s m args below meth c D cl A H0 nL cells slots Q pc lv (.int x :: st) ws := by
  subst ha
  exact ig_if_lt hx hb hd ht (fun h => kt ((ig_P0 h1).mp h)) (fun h => by
    cases a with
    | zero => exact absurd ((ig_P0 h1).mpr rfl) h
    | succ j => exact kf j rfl)
theorem ig_if_geP (hx : p.tables.exec = Jvm.exec) (hb : c.code = cc) {x : Int32} (a : Nat) (ha : x = nI a - 1) {off : Int} {tgt : Nat} (hd : decode cc pc = .ok (.ifCond .ge off, 3)) (ht : (pc : Int) + off = (tgt : Int)) (h1 : a < 2147483648) (kt : ∀ j, a = j + 1 → ig_W p l e R s m args below meth c D cl A H0 nL cells slots Q tgt lv st ws) (kf : a = 0 → ig_W p l e R s m args below meth c D cl A H0 nL cells slots Q (pc + 3) lv st ws) : ig_W p l e R s m args below meth c D cl A H0 nL cells slots Q pc lv (.int x :: st) ws := by
  subst ha
  exact ig_if_ge hx hb hd ht (fun h => by
    cases a with
    | zero => exact absurd h (by decide)
    | succ j => exact kt j rfl) (fun h => kf (Nat.eq_zero_of_not_pos fun q => h (ig_Pge q h1)))
theorem ig_iald (hx : p.tables.exec = Jvm.exec) (hb : c.code = cc) (hK : va_K D cl tys s) (q0 t0 : Nat) {a : Nat} {cA : ClassId} {n : Nat} {f : Nat → Int32} (ha : ws[q0]? = some (a, .inl (cA, n, .inl f))) (ht : tys[t0]? = some (cA, .int)) {i x : Int32} (j : Nat) (hj : i = nI j) (hin : j < n) (hn : n < 2147483648) (hv : f j = x) (hd : decode cc pc = .ok (.iaload, 1)) (k : ig_W p l e R s m args below meth c D cl A H0 nL cells slots Q (pc + 1) lv (.int x :: st) ws) : ig_W p l e R s m args below meth c D cl A H0 nL cells slots Q pc lv (.int i :: .ref a :: st) ws := by
  subst hj
  subst hv
  intro H locs ls hl hP hD hS
  have k := k H locs ls hl hP hD hS
  refine va_iald hx hb hK hP q0 t0 ha ht (ig_in hin hn) hd ?_
  rw [ig_cl (Nat.lt_trans hin hn)]
  exact k
theorem ig_iast (hx : p.tables.exec = Jvm.exec) (hb : c.code = cc) (hK : va_K D cl tys s) (q0 t0 : Nat) {a : Nat} {cA : ClassId} {n : Nat} {f f' : Nat → Int32} (ha : ws[q0]? = some (a, .inl (cA, n, .inl f))) (ht : tys[t0]? = some (cA, .int)) {i x : Int32} (j : Nat) (hj : i = nI j) (hin : j < n) (hn : n < 2147483648) (hv : upd f j x = f') (hd : decode cc pc = .ok (.iastore, 1)) {ws' : va_W} (hw : (ws.set q0 (a, .inl (cA, n, .inl f'))) = ws') (k : ig_W p l e R s m args below meth c D cl A H0 nL cells slots Q (pc + 1) lv st ws') : ig_W p l e R s m args below meth c D cl A H0 nL cells slots Q pc lv (.int x :: .int i :: .ref a :: st) ws := by
  subst hj
  subst hv
  subst hw
  intro H locs ls hl hP hD hS
  refine va_iast hx hb hK hP hD hS q0 t0 ha ht (ig_in hin hn) hd (fun H1 locs1 h1 h2 h3 => ?_)
  rw [ig_cl (Nat.lt_trans hin hn)] at h1 h2
  exact k H1 locs1 ls hl h1 h2 h3
theorem ig_cald (hx : p.tables.exec = Jvm.exec) (hb : c.code = cc) (hK : va_K D cl tys s) (q0 t0 : Nat) {a : Nat} {cA : ClassId} {n : Nat} {f : Nat → Int32} (ha : ws[q0]? = some (a, .inl (cA, n, .inl f))) (ht : tys[t0]? = some (cA, .char)) {i x : Int32} (j : Nat) (hj : i = nI j) (hin : j < n) (hn : n < 2147483648) (hv : f j = x) (hd : decode cc pc = .ok (.caload, 1)) (k : ig_W p l e R s m args below meth c D cl A H0 nL cells slots Q (pc + 1) lv (.int x :: st) ws) : ig_W p l e R s m args below meth c D cl A H0 nL cells slots Q pc lv (.int i :: .ref a :: st) ws := by
  subst hj
  subst hv
  intro H locs ls hl hP hD hS
  have k := k H locs ls hl hP hD hS
  refine va_cald hx hb hK hP q0 t0 ha ht (ig_in hin hn) hd ?_
  rw [ig_cl (Nat.lt_trans hin hn)]
  exact k
theorem ig_cast (hx : p.tables.exec = Jvm.exec) (hb : c.code = cc) (hK : va_K D cl tys s) (q0 t0 : Nat) {a : Nat} {cA : ClassId} {n : Nat} {f f' : Nat → Int32} (ha : ws[q0]? = some (a, .inl (cA, n, .inl f))) (ht : tys[t0]? = some (cA, .char)) {i x : Int32} (j : Nat) (hj : i = nI j) (hin : j < n) (hn : n < 2147483648) (hnar : vp_nar .char x = x) (hv : upd f j x = f') (hd : decode cc pc = .ok (.castore, 1)) {ws' : va_W} (hw : (ws.set q0 (a, .inl (cA, n, .inl f'))) = ws') (k : ig_W p l e R s m args below meth c D cl A H0 nL cells slots Q (pc + 1) lv st ws') : ig_W p l e R s m args below meth c D cl A H0 nL cells slots Q pc lv (.int x :: .int i :: .ref a :: st) ws := by
  subst hj
  subst hv
  subst hw
  intro H locs ls hl hP hD hS
  refine va_cast hx hb hK hP hD hS q0 t0 ha ht (ig_in hin hn) hd (fun H1 locs1 h1 h2 h3 => ?_)
  rw [ig_cl (Nat.lt_trans hin hn), hnar] at h1 h2
  exact k H1 locs1 ls hl h1 h2 h3
theorem ig_zald (hx : p.tables.exec = Jvm.exec) (hb : c.code = cc) (hK : va_K D cl tys s) (q0 t0 : Nat) {a : Nat} {cA : ClassId} {n : Nat} {f : Nat → Int32} (ha : ws[q0]? = some (a, .inl (cA, n, .inl f))) (ht : tys[t0]? = some (cA, .boolean)) {i x : Int32} (j : Nat) (hj : i = nI j) (hin : j < n) (hn : n < 2147483648) (hv : f j = x) (hd : decode cc pc = .ok (.baload, 1)) (k : ig_W p l e R s m args below meth c D cl A H0 nL cells slots Q (pc + 1) lv (.int x :: st) ws) : ig_W p l e R s m args below meth c D cl A H0 nL cells slots Q pc lv (.int i :: .ref a :: st) ws := by
  subst hj
  subst hv
  intro H locs ls hl hP hD hS
  have k := k H locs ls hl hP hD hS
  refine va_zald hx hb hK hP q0 t0 ha ht (ig_in hin hn) hd ?_
  rw [ig_cl (Nat.lt_trans hin hn)]
  exact k
theorem ig_zast (hx : p.tables.exec = Jvm.exec) (hb : c.code = cc) (hK : va_K D cl tys s) (q0 t0 : Nat) {a : Nat} {cA : ClassId} {n : Nat} {f f' : Nat → Int32} (ha : ws[q0]? = some (a, .inl (cA, n, .inl f))) (ht : tys[t0]? = some (cA, .boolean)) {i x : Int32} (j : Nat) (hj : i = nI j) (hin : j < n) (hn : n < 2147483648) (hnar : vp_nar .boolean x = x) (hv : upd f j x = f') (hd : decode cc pc = .ok (.bastore, 1)) {ws' : va_W} (hw : (ws.set q0 (a, .inl (cA, n, .inl f'))) = ws') (k : ig_W p l e R s m args below meth c D cl A H0 nL cells slots Q (pc + 1) lv st ws') : ig_W p l e R s m args below meth c D cl A H0 nL cells slots Q pc lv (.int x :: .int i :: .ref a :: st) ws := by
  subst hj
  subst hv
  subst hw
  intro H locs ls hl hP hD hS
  refine va_zast hx hb hK hP hD hS q0 t0 ha ht (ig_in hin hn) hd (fun H1 locs1 h1 h2 h3 => ?_)
  rw [ig_cl (Nat.lt_trans hin hn), hnar] at h1 h2
  exact k H1 locs1 ls hl h1 h2 h3
theorem ig_last (hx : p.tables.exec = Jvm.exec) (hb : c.code = cc) (hK : va_K D cl tys s) (q0 t0 : Nat) {a : Nat} {cA : ClassId} {n : Nat} {f : Nat → Int64} (ha : ws[q0]? = some (a, .inl (cA, n, .inr (.inl f)))) (ht : tys[t0]? = some (cA, .long)) {i : Int32} {x : Int64} (j : Nat) (hj : i = nI j) (hin : j < n) (hn : n < 2147483648) (hd : decode cc pc = .ok (.lastore, 1)) {ws' : va_W} (hw : ws.set q0 (a, .inl (cA, n, .inr (.inl (vp_updL f j x)))) = ws') (k : ig_W p l e R s m args below meth c D cl A H0 nL cells slots Q (pc + 1) lv st ws') : ig_W p l e R s m args below meth c D cl A H0 nL cells slots Q pc lv (.long x :: .int i :: .ref a :: st) ws := by
  subst hj
  subst hw
  intro H locs ls hl hP hD hS
  refine va_last hx hb hK hP hD hS q0 t0 ha ht (ig_in hin hn) hd (fun H1 locs1 h1 h2 h3 => ?_)
  rw [ig_cl (Nat.lt_trans hin hn)] at h1 h2
  exact k H1 locs1 ls hl h1 h2 h3
theorem ig_lald (hx : p.tables.exec = Jvm.exec) (hb : c.code = cc) (hK : va_K D cl tys s) (q0 t0 : Nat) {a : Nat} {cA : ClassId} {n : Nat} {f : Nat → Int64} (ha : ws[q0]? = some (a, .inl (cA, n, .inr (.inl f)))) (ht : tys[t0]? = some (cA, .long)) {i : Int32} {x : Int64} (j : Nat) (hj : i = nI j) (hin : j < n) (hn : n < 2147483648) (hv : f j = x) (hd : decode cc pc = .ok (.laload, 1)) (k : ig_W p l e R s m args below meth c D cl A H0 nL cells slots Q (pc + 1) lv (.long x :: st) ws) : ig_W p l e R s m args below meth c D cl A H0 nL cells slots Q pc lv (.int i :: .ref a :: st) ws := by
  subst hj
  subst hv
  intro H locs ls hl hP hD hS
  have k := k H locs ls hl hP hD hS
  refine va_lald hx hb hK hP q0 t0 ha ht (ig_in hin hn) hd ?_
  rw [ig_cl (Nat.lt_trans hin hn)]
  exact k
theorem ig_get (hx : p.tables.exec = Jvm.exec) (hb : c.code = cc) {own ref C : String} {T : u_T} {N ci index : Nat} {Ts : List Cond} (hts : ∀ w ∈ Ts, w.before args s = true) (hin : ∀ w ∈ u_ws C T N, w ∈ Ts) (hown : s.vm.findClass own = some m.cls) (hK : va_K D cl tys s) (q0 : Nat) {a : Nat} {fs : List Value} (he : ws[q0]? = some (a, .inr (ci, fs))) (hc : cl[ci]? = some (C, T, N)) (k : Nat) (hk : k < N) (hlink : (Cond.fieldLink own index ref (T k).2.1 (T k).2.2.1).before args s = true) (hsame : ∀ x, s.fieldFound? (T k).1 (T k).2.1 (T k).2.2.1 = some x → s.fieldFound? ref (T k).2.1 (T k).2.2.1 = some x) {v : Value} (hv : fs[k]? = some v) (hd : decode cc pc = .ok (.getfield index, 3)) (kk : ig_W p l e R s m args below meth c D cl A H0 nL cells slots Q (pc + 3) lv (v :: st) ws) : ig_W p l e R s m args below meth c D cl A H0 nL cells slots Q pc lv (.ref a :: st) ws := fun H locs ls hl hP hD hS => va_get hx hb hts hin hown hK hP q0 he hc k hk hlink hsame hv hd (kk H locs ls hl hP hD hS)
theorem ig_put (hx : p.tables.exec = Jvm.exec) (hb : c.code = cc) {own ref C : String} {T : u_T} {N ci index : Nat} {Ts : List Cond} (hts : ∀ w ∈ Ts, w.before args s = true) (hin : ∀ w ∈ u_ws C T N, w ∈ Ts) (ty0 : Nat → FieldType) (hty : ∀ k, k < N → parseFieldDescriptor (T k).2.2.1 = some (ty0 k)) (hnm : ∀ a, a < N → ∀ b, b < N → a ≠ b → (T a).2.1 ≠ (T b).2.1) (hown : s.vm.findClass own = some m.cls) (hK : va_K D cl tys s) (q0 : Nat) {a : Nat} {fs : List Value} (he : ws[q0]? = some (a, .inr (ci, fs))) (hc : cl[ci]? = some (C, T, N)) (k : Nat) (hk : k < N) (hlink : (Cond.fieldLink own index ref (T k).2.1 (T k).2.2.1).before args s = true) (hsame : ∀ x, s.fieldFound? (T k).1 (T k).2.1 (T k).2.2.1 = some x → s.fieldFound? ref (T k).2.1 (T k).2.2.1 = some x) (hfin : (T k).2.2.2 = false) {ty : FieldType} {v : Value} (hdt : parseFieldDescriptor (T k).2.2.1 = some ty) (hn : narrow ty v = v) (hfit : fits ty v = true) (hlen : k < fs.length) (hd : decode cc pc = .ok (.putfield index, 3)) {ws' : va_W} (hw : ws.set q0 (a, .inr (ci, fs.set k v)) = ws') (kk : ig_W p l e R s m args below meth c D cl A H0 nL cells slots Q (pc + 3) lv st ws') : ig_W p l e R s m args below meth c D cl A H0 nL cells slots Q pc lv (v :: .ref a :: st) ws := by
  subst hw
  exact fun H locs ls hl hP hD hS => va_put hx hb hts hin ty0 hty hnm hown hK hP hD hS q0 he hc k hk hlink hsame hfin hdt hn hfit hlen hd (fun H1 locs1 h1 h2 h3 => kk H1 locs1 ls hl h1 h2 h3)
theorem ig_getN (hx : p.tables.exec = Jvm.exec) (hb : c.code = cc) {own ref C : String} {T : u_T} {N ci index : Nat} {Ts : List Cond} (hts : ∀ w ∈ Ts, w.before args s = true) (hin : ∀ w ∈ u_ws C T N, w ∈ Ts) {host : String} (hown : s.vm.findClass own = some m.cls) (hK : va_K D cl tys s) (q0 : Nat) {a : Nat} {fs : List Value} (he : ws[q0]? = some (a, .inr (ci, fs))) (hc : cl[ci]? = some (C, T, N)) (k : Nat) (hk : k < N) (hlink : (Cond.fieldLinkNest own index ref (T k).2.1 (T k).2.2.1 host).before args s = true) (hsame : ∀ x, s.fieldFound? (T k).1 (T k).2.1 (T k).2.2.1 = some x → s.fieldFound? ref (T k).2.1 (T k).2.2.1 = some x) {v : Value} (hv : fs[k]? = some v) (hd : decode cc pc = .ok (.getfield index, 3)) (kk : ig_W p l e R s m args below meth c D cl A H0 nL cells slots Q (pc + 3) lv (v :: st) ws) : ig_W p l e R s m args below meth c D cl A H0 nL cells slots Q pc lv (.ref a :: st) ws := fun H locs ls hl hP hD hS => va_getN hx hb hts hin hown hK hP q0 he hc k hk hlink hsame hv hd (kk H locs ls hl hP hD hS)
theorem ig_putN (hx : p.tables.exec = Jvm.exec) (hb : c.code = cc) {own ref C : String} {T : u_T} {N ci index : Nat} {Ts : List Cond} (hts : ∀ w ∈ Ts, w.before args s = true) (hin : ∀ w ∈ u_ws C T N, w ∈ Ts) {host : String} (ty0 : Nat → FieldType) (hty : ∀ k, k < N → parseFieldDescriptor (T k).2.2.1 = some (ty0 k)) (hnm : ∀ a, a < N → ∀ b, b < N → a ≠ b → (T a).2.1 ≠ (T b).2.1) (hown : s.vm.findClass own = some m.cls) (hK : va_K D cl tys s) (q0 : Nat) {a : Nat} {fs : List Value} (he : ws[q0]? = some (a, .inr (ci, fs))) (hc : cl[ci]? = some (C, T, N)) (k : Nat) (hk : k < N) (hlink : (Cond.fieldLinkNest own index ref (T k).2.1 (T k).2.2.1 host).before args s = true) (hsame : ∀ x, s.fieldFound? (T k).1 (T k).2.1 (T k).2.2.1 = some x → s.fieldFound? ref (T k).2.1 (T k).2.2.1 = some x) (hfin : (T k).2.2.2 = false) {ty : FieldType} {v : Value} (hdt : parseFieldDescriptor (T k).2.2.1 = some ty) (hn : narrow ty v = v) (hfit : fits ty v = true) (hlen : k < fs.length) (hd : decode cc pc = .ok (.putfield index, 3)) {ws' : va_W} (hw : ws.set q0 (a, .inr (ci, fs.set k v)) = ws') (kk : ig_W p l e R s m args below meth c D cl A H0 nL cells slots Q (pc + 3) lv st ws') : ig_W p l e R s m args below meth c D cl A H0 nL cells slots Q pc lv (v :: .ref a :: st) ws := by
  subst hw
  exact fun H locs ls hl hP hD hS => va_putN hx hb hts hin ty0 hty hnm hown hK hP hD hS q0 he hc k hk hlink hsame hfin hdt hn hfit hlen hd (fun H1 locs1 h1 h2 h3 => kk H1 locs1 ls hl h1 h2 h3)
end IG
end
section
/-! contracts in one form, and calls -/
/-- private members of nest mates: the links -/
def ig_N (U : State) : Prop := (∀ q ∈ ig_nf, va_Nw (.fieldLinkNest q.1 q.2.1 q.2.2.1 q.2.2.2.1 q.2.2.2.2.1 q.2.2.2.2.2) U) ∧ ∀ q ∈ ig_nm, va_Nw (.methodLinkNest q.1 q.2.1 q.2.2.1 q.2.2.2) U
theorem ig_N.warm {s U : State} (hW : s.WarmedH U.vm) (h : ig_N s) : ig_N U := ⟨fun q hq => va_Nw.warmF hW (h.1 q hq), fun q hq => va_Nw.warmM hW (h.2 q hq)⟩
theorem ig_N.same {s U : State} (hv : s.vm = U.vm) (h : ig_N s) : ig_N U := ⟨fun q hq => va_Nw.same rfl hv (h.1 q hq), fun q hq => va_Nw.same rfl hv (h.2 q hq)⟩
/-- a method's start: arguments, cells -/
abbrev ig_Pc (D : va_G) (cl : List vw_C) (tys : List (ClassId × FieldType)) (av : List Value) (w0 : va_W) (sz : Nat) : Array Value → State → Prop := va_Pc av (fun U => U.heap.size = sz ∧ va_P D cl w0 U.heap ∧ va_K D cl tys U ∧ va_D (fun _ => True) w0 ∧ ig_N U)
theorem ig_blind {D : va_G} {cl : List vw_C} {tys : List (ClassId × FieldType)} {av : List Value} {w0 : va_W} {sz : Nat} : FrameBlind (ig_Pc D cl tys av w0 sz) := by
  intro a U g mk q
  obtain ⟨q0, q1, qP, qK, qD, qN⟩ := q
  exact ⟨q0, q1, qP, va_K.moved (u := U) (U := U.calling g mk a) (Vm.Alike.refl U.vm) qK, qD, ig_N.same (s := U) (U := U.calling g mk a) rfl qN⟩
theorem ig_pre {D : va_G} {cl : List vw_C} {tys : List (ClassId × FieldType)} {av : List Value} {w0 : va_W} {s : State} {H : Heap} (hK : va_K D cl tys s) (hN : ig_N s) (hP : va_P D cl w0 H) (hD : va_D (fun _ => True) w0) : ∀ U : State, U.heap = H → s.WarmedH U.vm → ig_Pc D cl tys av w0 H.size av.toArray U := fun U hU hW => ⟨rfl, by rw [hU], by rw [hU]; exact hP, va_K.moved hW.alike hK, hD, hN.warm hW⟩
theorem ig_metI {S : Type} {l : Launch} {D : va_G} {cl : List vw_C} {tys : List (ClassId × FieldType)} {y : MethodName} {rm : Room} {cc : ByteArray} {maxL : Nat} {ty : FieldType} {av : List Value} {lv0 : List (Nat × Value)} {w0 : va_W} {sz : Nat} {ws : List Cond} (post : Int32 → S → Prop) (w : S → va_W)
    (hy : plainName y.cls = true) (hw : ws = Cond.code y cc maxL (some ty) :: ig_T) (hlen : (lg_sl av).length ≤ maxL) (hlv : lv_args 0 av = lv0) (hnar : ∀ (r : Int32) (u : S), post r u → narrow ty (.int r) = .int r) 
    (body : ∀ (p : Program) (e : Env) (s : State) (m : MethodId) (args : Array Value) (below : List Frame) (meth : Method) (c : Code) (A : Nat → Prop) (Q : State → Prop), p.tables.exec = Jvm.exec → c.code = cc → c.maxLocals = maxL → s.vm.findClass y.cls = some m.cls → (∀ w ∈ ig_T, w.before args s = true) → va_K D cl tys s → ig_N s → (∀ q : Nat, s.heap.size ≤ q → A q) →
      (∀ (pc : Nat) (lv : List (Nat × Value)) (r : Int32) (u : S), decode cc pc = .ok (.ireturn, 1) → post r u → ig_W p l e rm s m args below meth c D cl A s.heap maxL 0 0 Q pc lv [.int r] (w u)) → ig_W p l e rm s m args below meth c D cl A s.heap maxL 0 0 Q 0 lv0 [] w0) :
    Met l y ws rm (ig_Pc D cl tys av w0 sz) (va_Qi post (fun u t => va_P D cl (w u) t.heap ∧ va_D (va_A w0 sz) (w u)) (va_A w0 sz)) 0 0 (va_A w0 sz) := by
  refine Met.ofW (cc := cc) (maxL := maxL) (ret := (some ty)) hy hw ?_
  intro p e s m args below meth c s₁ B hml hv
  obtain ⟨rfl, hsz, hP, hK, hD0, hN⟩ := hv
  subst hsz
  have hD := hD0.self (sz := s.heap.size)
  have hl := lv_entry av (n := maxL) hlen
  rw [lg_entry_eq]
  rw [hlv] at hl
  refine body p e s m _ below meth c (va_A w0 s.heap.size) _ B.exec B.bytes hml (findClass_of_methodNamed B.named) (fun w h => atoms_spec (ws := ws) B.pre w (by rw [hw]; exact List.mem_cons_of_mem _ h)) hK hN (fun q h => Or.inr h) ?_ s.heap [] _ hl hP hD va_S.rf
  intro pc lv r u hd hp H locs ls hl2 hP2 hD2 hS2
  exact W.zret B.exec B.bytes B.returns (hnar r u hp) (fun t ht hW => ⟨⟨r, u, rfl, hp, by rw [ht]; exact hP2, hD2⟩, hS2.F ht⟩) hS2.2.2 hd
theorem ig_metV {S : Type} {l : Launch} {D : va_G} {cl : List vw_C} {tys : List (ClassId × FieldType)} {y : MethodName} {rm : Room} {cc : ByteArray} {maxL : Nat} {av : List Value} {lv0 : List (Nat × Value)} {w0 : va_W} {sz : Nat} {ws : List Cond} (post : S → Prop) (w : S → va_W)
    (hy : plainName y.cls = true) (hw : ws = Cond.code y cc maxL none :: ig_T) (hlen : (lg_sl av).length ≤ maxL) (hlv : lv_args 0 av = lv0) 
    (body : ∀ (p : Program) (e : Env) (s : State) (m : MethodId) (args : Array Value) (below : List Frame) (meth : Method) (c : Code) (A : Nat → Prop) (Q : State → Prop), p.tables.exec = Jvm.exec → c.code = cc → c.maxLocals = maxL → s.vm.findClass y.cls = some m.cls → (∀ w ∈ ig_T, w.before args s = true) → va_K D cl tys s → ig_N s → (∀ q : Nat, s.heap.size ≤ q → A q) →
      (∀ (pc : Nat) (lv : List (Nat × Value)) (u : S), decode cc pc = .ok (.return_, 1) → post u → ig_W p l e rm s m args below meth c D cl A s.heap maxL 0 0 Q pc lv [] (w u)) → ig_W p l e rm s m args below meth c D cl A s.heap maxL 0 0 Q 0 lv0 [] w0) :
    Met l y ws rm (ig_Pc D cl tys av w0 sz) (va_Qv post (fun u t => va_P D cl (w u) t.heap ∧ va_D (va_A w0 sz) (w u)) (va_A w0 sz)) 0 0 (va_A w0 sz) := by
  refine Met.ofW (cc := cc) (maxL := maxL) (ret := none) hy hw ?_
  intro p e s m args below meth c s₁ B hml hv
  obtain ⟨rfl, hsz, hP, hK, hD0, hN⟩ := hv
  subst hsz
  have hD := hD0.self (sz := s.heap.size)
  have hl := lv_entry av (n := maxL) hlen
  rw [lg_entry_eq]
  rw [hlv] at hl
  refine body p e s m _ below meth c (va_A w0 s.heap.size) _ B.exec B.bytes hml (findClass_of_methodNamed B.named) (fun w h => atoms_spec (ws := ws) B.pre w (by rw [hw]; exact List.mem_cons_of_mem _ h)) hK hN (fun q h => Or.inr h) ?_ s.heap [] _ hl hP hD va_S.rf
  intro pc lv u hd hp H locs ls hl2 hP2 hD2 hS2
  exact W.vret B.exec B.bytes B.returns (fun t ht hW => ⟨⟨u, rfl, hp, by rw [ht]; exact hP2, hD2⟩, hS2.F ht⟩) hS2.2.2 hd
section IGC
variable {p : Program} {l : Launch} {e : Env} {R : Room} {s : State} {m : MethodId} {args : Array Value} {below : List Frame} {meth : Method} {c : Code} {D : va_G} {cl : List vw_C} {A : Nat → Prop} {H0 : Heap} {nL cells slots : Nat} {Q : State → Prop}
variable {cc : ByteArray} {pc : Nat} {lv : List (Nat × Value)} {st : List Value} {ws : va_W} {tys : List (ClassId × FieldType)}
theorem ig_goi {S : Type} {post : Int32 → S → Prop} {w ws' : S → va_W} {wc wr : va_W} {rest : List Value} {a : Array Value} (hA : ∀ q : Nat, H0.size ≤ q → A q) (isC isR isB : List Nat) (hC : isC.map (fun i => ws[i]?) = wc.map some) (hR : isR.map (fun i => ws[i]?) = wr.map some) (hCn : va_nd isC = true) (hRn : va_nd isR = true ∧ ∀ i ∈ isR, i ∉ isC) (hBn : va_nd isB = true) (hB1 : ∀ u : S, isB.filterMap (fun i => (wr ++ w u)[i]?) = ws' u) (hB2 : ∀ u : S, isB.map (fun i => (wr ++ w u)[i]?) = (ws' u).map some)
    (run : ∀ (H : Heap) (locs : List Loc) (ls : Array Slot), lv_has ls nL lv → va_P D cl wc H → va_D (fun _ => True) wc → va_Run p l e R s m args below meth c H locs cells slots 0 0 (F0 m pc ls st) rest (va_Qi post (fun u t => va_P D cl (w u) t.heap ∧ va_D (va_A wc H.size) (w u)) (va_A wc H.size) a) (va_A wc H.size))
    (kk : ∀ (r : Int32) (u : S), post r u → ig_W p l e R s m args below meth c D cl A H0 nL cells slots Q (pc + 3) lv (.int r :: rest) (ws' u)) : ig_W p l e R s m args below meth c D cl A H0 nL cells slots Q pc lv st ws := by
  intro H locs ls hl hP hD hS
  have hPc : va_P D cl wc H := by
    intro k q hk
    have h1 : (isC.map (fun i => ws[i]?))[k]? = some (some q) := by rw [hC, List.getElem?_map, hk]; rfl
    rw [List.getElem?_map] at h1
    cases hi : isC[k]? with
    | none => rw [hi] at h1; cases h1
    | some i => rw [hi] at h1; exact hP i q (Option.some.inj h1)
  have hDc := hD.sub isC hCn hC
  have hFc := va_free (wc := wc) hD hS hA isC hC
  refine va_calli (run H locs ls hl hPc (hDc.weaken (fun _ _ _ _ => trivial))) hS (fun q _ h => hFc q h) hFc (fun r u t H1 locs1 ht hvm hp hB hz1 hk1 hS1 => ?_)
  obtain ⟨hP1, hD1⟩ := hB
  rw [ht] at hP1
  obtain ⟨hP2, hD2⟩ := va_join (wr := wr) (w1 := w u) hP hD isC isR hC hR hRn.1 hRn.2 hk1 hFc hP1 hD1
  exact kk r u hp H1 locs1 ls hl (hP2.sub isB (hB1 u)) (hD2.sub isB hBn (hB2 u)) hS1
theorem ig_cVi {S : Type} {post : Int32 → S → Prop} {w ws' : S → va_W} {wc wr : va_W} {As rest : List Value} (hx : p.tables.exec = Jvm.exec) (hb : c.code = cc) (hml : c.maxLocals = nL) {own : String} (hown : s.vm.findClass own = some m.cls) (hts : ∀ w ∈ ig_T, w.before args s = true) (hK : va_K D cl tys s) (hN : ig_N s) (hA : ∀ q : Nat, H0.size ≤ q → A q) {y : MethodName} {wy : List Cond} {rm : Room} {bytes : ByteArray} {maxL index n : Nat} {ret : Option FieldType} {b ci N : Nat} {fs : List Value} {T : u_T} (hM : ∀ sz : Nat, Met l y wy rm (ig_Pc D cl tys (.ref b :: As) wc sz) (va_Qi post (fun u t => va_P D cl (w u) t.heap ∧ va_D (va_A wc sz) (w u)) (va_A wc sz)) 0 0 (va_A wc sz)) (cw : CallW R s args own y.cls index y bytes maxL ret wy rm 0 0 n) (hn : As.length = n) (hst : st = As.reverse ++ .ref b :: rest) (hroom : (rest.map fun v => v.category).sum ≤ 8) (hd : decode cc pc = .ok (.invokevirtual index, 3)) (hf : cells + 0 ≤ R.cells ∧ slots + 0 ≤ R.slots) (qb : Nat) (hq : wc[qb]? = some (b, .inr (ci, fs))) (hci : cl[ci]? = some (y.cls, T, N)) (isC isR isB : List Nat) (hC : isC.map (fun i => ws[i]?) = wc.map some) (hR : isR.map (fun i => ws[i]?) = wr.map some) (hCn : va_nd isC = true) (hRn : va_nd isR = true ∧ ∀ i ∈ isR, i ∉ isC) (hBn : va_nd isB = true) (hB1 : ∀ u : S, isB.filterMap (fun i => (wr ++ w u)[i]?) = ws' u) (hB2 : ∀ u : S, isB.map (fun i => (wr ++ w u)[i]?) = (ws' u).map some)
    (kk : ∀ (r : Int32) (u : S), post r u → ig_W p l e R s m args below meth c D cl A H0 nL cells slots Q (pc + 3) lv (.int r :: rest) (ws' u)) : ig_W p l e R s m args below meth c D cl A H0 nL cells slots Q pc lv st ws :=
  ig_goi hA isC isR isB hC hR hCn hRn hBn hB1 hB2 (fun H locs ls hl hPc hDc => va_runV (As := As) (rest := rest) ⟨hx, hb, hml, hown, hts⟩ (hM H.size) cw ⟨ig_blind, va_recv hK hPc hci hq, ig_pre hK hN hPc hDc⟩ rfl hn hl.1 hst (lv_room hroom) hd hf) kk
theorem ig_cVNi {S : Type} {post : Int32 → S → Prop} {w ws' : S → va_W} {wc wr : va_W} {As rest : List Value} (hx : p.tables.exec = Jvm.exec) (hb : c.code = cc) (hml : c.maxLocals = nL) {own : String} (hown : s.vm.findClass own = some m.cls) (hts : ∀ w ∈ ig_T, w.before args s = true) (hK : va_K D cl tys s) (hN : ig_N s) (hA : ∀ q : Nat, H0.size ≤ q → A q) {y : MethodName} {wy : List Cond} {rm : Room} {bytes : ByteArray} {maxL index n : Nat} {ret : Option FieldType} {host : String} {b ci N : Nat} {fs : List Value} {T : u_T} (hM : ∀ sz : Nat, Met l y wy rm (ig_Pc D cl tys (.ref b :: As) wc sz) (va_Qi post (fun u t => va_P D cl (w u) t.heap ∧ va_D (va_A wc sz) (w u)) (va_A wc sz)) 0 0 (va_A wc sz)) (cw : va_CN R s args own index y host bytes maxL ret wy rm 0 0 n ∧ (Cond.instanceMethod y).before args s = true ∧ (Cond.selects y.cls y y).before args s = true) (hn : As.length = n) (hst : st = As.reverse ++ .ref b :: rest) (hroom : (rest.map fun v => v.category).sum ≤ 8) (hd : decode cc pc = .ok (.invokevirtual index, 3)) (hf : cells + 0 ≤ R.cells ∧ slots + 0 ≤ R.slots) (qb : Nat) (hq : wc[qb]? = some (b, .inr (ci, fs))) (hci : cl[ci]? = some (y.cls, T, N)) (isC isR isB : List Nat) (hC : isC.map (fun i => ws[i]?) = wc.map some) (hR : isR.map (fun i => ws[i]?) = wr.map some) (hCn : va_nd isC = true) (hRn : va_nd isR = true ∧ ∀ i ∈ isR, i ∉ isC) (hBn : va_nd isB = true) (hB1 : ∀ u : S, isB.filterMap (fun i => (wr ++ w u)[i]?) = ws' u) (hB2 : ∀ u : S, isB.map (fun i => (wr ++ w u)[i]?) = (ws' u).map some)
    (kk : ∀ (r : Int32) (u : S), post r u → ig_W p l e R s m args below meth c D cl A H0 nL cells slots Q (pc + 3) lv (.int r :: rest) (ws' u)) : ig_W p l e R s m args below meth c D cl A H0 nL cells slots Q pc lv st ws :=
  ig_goi hA isC isR isB hC hR hCn hRn hBn hB1 hB2 (fun H locs ls hl hPc hDc => va_runVN (As := As) (rest := rest) ⟨hx, hb, hml, hown, hts⟩ (hM H.size) cw ⟨ig_blind, va_recv hK hPc hci hq, ig_pre hK hN hPc hDc⟩ rfl hn hl.1 hst (lv_room hroom) hd hf) kk
theorem ig_cSi {S : Type} {post : Int32 → S → Prop} {w ws' : S → va_W} {wc wr : va_W} {As rest : List Value} (hx : p.tables.exec = Jvm.exec) (hb : c.code = cc) (hml : c.maxLocals = nL) {own : String} (hown : s.vm.findClass own = some m.cls) (hts : ∀ w ∈ ig_T, w.before args s = true) (hK : va_K D cl tys s) (hN : ig_N s) (hA : ∀ q : Nat, H0.size ≤ q → A q) {y : MethodName} {wy : List Cond} {rm : Room} {bytes : ByteArray} {maxL index n : Nat} {ret : Option FieldType} (hM : ∀ sz : Nat, Met l y wy rm (ig_Pc D cl tys As wc sz) (va_Qi post (fun u t => va_P D cl (w u) t.heap ∧ va_D (va_A wc sz) (w u)) (va_A wc sz)) 0 0 (va_A wc sz)) (cw : CallB R s args own index y bytes maxL ret wy rm 0 0 n ∧ (Cond.static y).before args s = true) (hn : As.length = n) (hst : st = As.reverse ++ rest) (hroom : (rest.map fun v => v.category).sum ≤ 8) (hd : decode cc pc = .ok (.invokestatic index, 3)) (hf : cells + 0 ≤ R.cells ∧ slots + 0 ≤ R.slots) (isC isR isB : List Nat) (hC : isC.map (fun i => ws[i]?) = wc.map some) (hR : isR.map (fun i => ws[i]?) = wr.map some) (hCn : va_nd isC = true) (hRn : va_nd isR = true ∧ ∀ i ∈ isR, i ∉ isC) (hBn : va_nd isB = true) (hB1 : ∀ u : S, isB.filterMap (fun i => (wr ++ w u)[i]?) = ws' u) (hB2 : ∀ u : S, isB.map (fun i => (wr ++ w u)[i]?) = (ws' u).map some)
    (kk : ∀ (r : Int32) (u : S), post r u → ig_W p l e R s m args below meth c D cl A H0 nL cells slots Q (pc + 3) lv (.int r :: rest) (ws' u)) : ig_W p l e R s m args below meth c D cl A H0 nL cells slots Q pc lv st ws :=
  ig_goi hA isC isR isB hC hR hCn hRn hBn hB1 hB2 (fun H locs ls hl hPc hDc => va_runS (As := As) (rest := rest) ⟨hx, hb, hml, hown, hts⟩ (hM H.size) cw ⟨ig_blind, ig_pre hK hN hPc hDc⟩ rfl hn hl.1 hst (lv_room hroom) hd hf) kk
theorem ig_cSNi {S : Type} {post : Int32 → S → Prop} {w ws' : S → va_W} {wc wr : va_W} {As rest : List Value} (hx : p.tables.exec = Jvm.exec) (hb : c.code = cc) (hml : c.maxLocals = nL) {own : String} (hown : s.vm.findClass own = some m.cls) (hts : ∀ w ∈ ig_T, w.before args s = true) (hK : va_K D cl tys s) (hN : ig_N s) (hA : ∀ q : Nat, H0.size ≤ q → A q) {y : MethodName} {wy : List Cond} {rm : Room} {bytes : ByteArray} {maxL index n : Nat} {ret : Option FieldType} {host : String} (hM : ∀ sz : Nat, Met l y wy rm (ig_Pc D cl tys As wc sz) (va_Qi post (fun u t => va_P D cl (w u) t.heap ∧ va_D (va_A wc sz) (w u)) (va_A wc sz)) 0 0 (va_A wc sz)) (cw : va_CN R s args own index y host bytes maxL ret wy rm 0 0 n ∧ (Cond.static y).before args s = true ∧ True) (hn : As.length = n) (hst : st = As.reverse ++ rest) (hroom : (rest.map fun v => v.category).sum ≤ 8) (hd : decode cc pc = .ok (.invokestatic index, 3)) (hf : cells + 0 ≤ R.cells ∧ slots + 0 ≤ R.slots) (isC isR isB : List Nat) (hC : isC.map (fun i => ws[i]?) = wc.map some) (hR : isR.map (fun i => ws[i]?) = wr.map some) (hCn : va_nd isC = true) (hRn : va_nd isR = true ∧ ∀ i ∈ isR, i ∉ isC) (hBn : va_nd isB = true) (hB1 : ∀ u : S, isB.filterMap (fun i => (wr ++ w u)[i]?) = ws' u) (hB2 : ∀ u : S, isB.map (fun i => (wr ++ w u)[i]?) = (ws' u).map some)
    (kk : ∀ (r : Int32) (u : S), post r u → ig_W p l e R s m args below meth c D cl A H0 nL cells slots Q (pc + 3) lv (.int r :: rest) (ws' u)) : ig_W p l e R s m args below meth c D cl A H0 nL cells slots Q pc lv st ws :=
  ig_goi hA isC isR isB hC hR hCn hRn hBn hB1 hB2 (fun H locs ls hl hPc hDc => va_runSN (As := As) (rest := rest) ⟨hx, hb, hml, hown, hts⟩ (hM H.size) cw ⟨ig_blind, ig_pre hK hN hPc hDc⟩ rfl hn hl.1 hst (lv_room hroom) hd hf) kk
theorem ig_gov {S : Type} {post : S → Prop} {w ws' : S → va_W} {wc wr : va_W} {rest : List Value} {a : Array Value} (hA : ∀ q : Nat, H0.size ≤ q → A q) (isC isR isB : List Nat) (hC : isC.map (fun i => ws[i]?) = wc.map some) (hR : isR.map (fun i => ws[i]?) = wr.map some) (hCn : va_nd isC = true) (hRn : va_nd isR = true ∧ ∀ i ∈ isR, i ∉ isC) (hBn : va_nd isB = true) (hB1 : ∀ u : S, isB.filterMap (fun i => (wr ++ w u)[i]?) = ws' u) (hB2 : ∀ u : S, isB.map (fun i => (wr ++ w u)[i]?) = (ws' u).map some)
    (run : ∀ (H : Heap) (locs : List Loc) (ls : Array Slot), lv_has ls nL lv → va_P D cl wc H → va_D (fun _ => True) wc → va_Run p l e R s m args below meth c H locs cells slots 0 0 (F0 m pc ls st) rest (va_Qv post (fun u t => va_P D cl (w u) t.heap ∧ va_D (va_A wc H.size) (w u)) (va_A wc H.size) a) (va_A wc H.size))
    (kk : ∀ u : S, post u → ig_W p l e R s m args below meth c D cl A H0 nL cells slots Q (pc + 3) lv rest (ws' u)) : ig_W p l e R s m args below meth c D cl A H0 nL cells slots Q pc lv st ws := by
  intro H locs ls hl hP hD hS
  have hPc : va_P D cl wc H := by
    intro k q hk
    have h1 : (isC.map (fun i => ws[i]?))[k]? = some (some q) := by rw [hC, List.getElem?_map, hk]; rfl
    rw [List.getElem?_map] at h1
    cases hi : isC[k]? with
    | none => rw [hi] at h1; cases h1
    | some i => rw [hi] at h1; exact hP i q (Option.some.inj h1)
  have hDc := hD.sub isC hCn hC
  have hFc := va_free (wc := wc) hD hS hA isC hC
  refine va_callv (run H locs ls hl hPc (hDc.weaken (fun _ _ _ _ => trivial))) hS (fun q _ h => hFc q h) hFc (fun u t H1 locs1 ht hvm hp hB hz1 hk1 hS1 => ?_)
  obtain ⟨hP1, hD1⟩ := hB
  rw [ht] at hP1
  obtain ⟨hP2, hD2⟩ := va_join (wr := wr) (w1 := w u) hP hD isC isR hC hR hRn.1 hRn.2 hk1 hFc hP1 hD1
  exact kk u hp H1 locs1 ls hl (hP2.sub isB (hB1 u)) (hD2.sub isB hBn (hB2 u)) hS1
theorem ig_cVv {S : Type} {post : S → Prop} {w ws' : S → va_W} {wc wr : va_W} {As rest : List Value} (hx : p.tables.exec = Jvm.exec) (hb : c.code = cc) (hml : c.maxLocals = nL) {own : String} (hown : s.vm.findClass own = some m.cls) (hts : ∀ w ∈ ig_T, w.before args s = true) (hK : va_K D cl tys s) (hN : ig_N s) (hA : ∀ q : Nat, H0.size ≤ q → A q) {y : MethodName} {wy : List Cond} {rm : Room} {bytes : ByteArray} {maxL index n : Nat} {ret : Option FieldType} {b ci N : Nat} {fs : List Value} {T : u_T} (hM : ∀ sz : Nat, Met l y wy rm (ig_Pc D cl tys (.ref b :: As) wc sz) (va_Qv post (fun u t => va_P D cl (w u) t.heap ∧ va_D (va_A wc sz) (w u)) (va_A wc sz)) 0 0 (va_A wc sz)) (cw : CallW R s args own y.cls index y bytes maxL ret wy rm 0 0 n) (hn : As.length = n) (hst : st = As.reverse ++ .ref b :: rest) (hroom : (rest.map fun v => v.category).sum ≤ 8) (hd : decode cc pc = .ok (.invokevirtual index, 3)) (hf : cells + 0 ≤ R.cells ∧ slots + 0 ≤ R.slots) (qb : Nat) (hq : wc[qb]? = some (b, .inr (ci, fs))) (hci : cl[ci]? = some (y.cls, T, N)) (isC isR isB : List Nat) (hC : isC.map (fun i => ws[i]?) = wc.map some) (hR : isR.map (fun i => ws[i]?) = wr.map some) (hCn : va_nd isC = true) (hRn : va_nd isR = true ∧ ∀ i ∈ isR, i ∉ isC) (hBn : va_nd isB = true) (hB1 : ∀ u : S, isB.filterMap (fun i => (wr ++ w u)[i]?) = ws' u) (hB2 : ∀ u : S, isB.map (fun i => (wr ++ w u)[i]?) = (ws' u).map some)
    (kk : ∀ u : S, post u → ig_W p l e R s m args below meth c D cl A H0 nL cells slots Q (pc + 3) lv rest (ws' u)) : ig_W p l e R s m args below meth c D cl A H0 nL cells slots Q pc lv st ws :=
  ig_gov hA isC isR isB hC hR hCn hRn hBn hB1 hB2 (fun H locs ls hl hPc hDc => va_runV (As := As) (rest := rest) ⟨hx, hb, hml, hown, hts⟩ (hM H.size) cw ⟨ig_blind, va_recv hK hPc hci hq, ig_pre hK hN hPc hDc⟩ rfl hn hl.1 hst (lv_room hroom) hd hf) kk
theorem ig_cVNv {S : Type} {post : S → Prop} {w ws' : S → va_W} {wc wr : va_W} {As rest : List Value} (hx : p.tables.exec = Jvm.exec) (hb : c.code = cc) (hml : c.maxLocals = nL) {own : String} (hown : s.vm.findClass own = some m.cls) (hts : ∀ w ∈ ig_T, w.before args s = true) (hK : va_K D cl tys s) (hN : ig_N s) (hA : ∀ q : Nat, H0.size ≤ q → A q) {y : MethodName} {wy : List Cond} {rm : Room} {bytes : ByteArray} {maxL index n : Nat} {ret : Option FieldType} {host : String} {b ci N : Nat} {fs : List Value} {T : u_T} (hM : ∀ sz : Nat, Met l y wy rm (ig_Pc D cl tys (.ref b :: As) wc sz) (va_Qv post (fun u t => va_P D cl (w u) t.heap ∧ va_D (va_A wc sz) (w u)) (va_A wc sz)) 0 0 (va_A wc sz)) (cw : va_CN R s args own index y host bytes maxL ret wy rm 0 0 n ∧ (Cond.instanceMethod y).before args s = true ∧ (Cond.selects y.cls y y).before args s = true) (hn : As.length = n) (hst : st = As.reverse ++ .ref b :: rest) (hroom : (rest.map fun v => v.category).sum ≤ 8) (hd : decode cc pc = .ok (.invokevirtual index, 3)) (hf : cells + 0 ≤ R.cells ∧ slots + 0 ≤ R.slots) (qb : Nat) (hq : wc[qb]? = some (b, .inr (ci, fs))) (hci : cl[ci]? = some (y.cls, T, N)) (isC isR isB : List Nat) (hC : isC.map (fun i => ws[i]?) = wc.map some) (hR : isR.map (fun i => ws[i]?) = wr.map some) (hCn : va_nd isC = true) (hRn : va_nd isR = true ∧ ∀ i ∈ isR, i ∉ isC) (hBn : va_nd isB = true) (hB1 : ∀ u : S, isB.filterMap (fun i => (wr ++ w u)[i]?) = ws' u) (hB2 : ∀ u : S, isB.map (fun i => (wr ++ w u)[i]?) = (ws' u).map some)
    (kk : ∀ u : S, post u → ig_W p l e R s m args below meth c D cl A H0 nL cells slots Q (pc + 3) lv rest (ws' u)) : ig_W p l e R s m args below meth c D cl A H0 nL cells slots Q pc lv st ws :=
  ig_gov hA isC isR isB hC hR hCn hRn hBn hB1 hB2 (fun H locs ls hl hPc hDc => va_runVN (As := As) (rest := rest) ⟨hx, hb, hml, hown, hts⟩ (hM H.size) cw ⟨ig_blind, va_recv hK hPc hci hq, ig_pre hK hN hPc hDc⟩ rfl hn hl.1 hst (lv_room hroom) hd hf) kk
theorem ig_cSv {S : Type} {post : S → Prop} {w ws' : S → va_W} {wc wr : va_W} {As rest : List Value} (hx : p.tables.exec = Jvm.exec) (hb : c.code = cc) (hml : c.maxLocals = nL) {own : String} (hown : s.vm.findClass own = some m.cls) (hts : ∀ w ∈ ig_T, w.before args s = true) (hK : va_K D cl tys s) (hN : ig_N s) (hA : ∀ q : Nat, H0.size ≤ q → A q) {y : MethodName} {wy : List Cond} {rm : Room} {bytes : ByteArray} {maxL index n : Nat} {ret : Option FieldType} (hM : ∀ sz : Nat, Met l y wy rm (ig_Pc D cl tys As wc sz) (va_Qv post (fun u t => va_P D cl (w u) t.heap ∧ va_D (va_A wc sz) (w u)) (va_A wc sz)) 0 0 (va_A wc sz)) (cw : CallB R s args own index y bytes maxL ret wy rm 0 0 n ∧ (Cond.static y).before args s = true) (hn : As.length = n) (hst : st = As.reverse ++ rest) (hroom : (rest.map fun v => v.category).sum ≤ 8) (hd : decode cc pc = .ok (.invokestatic index, 3)) (hf : cells + 0 ≤ R.cells ∧ slots + 0 ≤ R.slots) (isC isR isB : List Nat) (hC : isC.map (fun i => ws[i]?) = wc.map some) (hR : isR.map (fun i => ws[i]?) = wr.map some) (hCn : va_nd isC = true) (hRn : va_nd isR = true ∧ ∀ i ∈ isR, i ∉ isC) (hBn : va_nd isB = true) (hB1 : ∀ u : S, isB.filterMap (fun i => (wr ++ w u)[i]?) = ws' u) (hB2 : ∀ u : S, isB.map (fun i => (wr ++ w u)[i]?) = (ws' u).map some)
    (kk : ∀ u : S, post u → ig_W p l e R s m args below meth c D cl A H0 nL cells slots Q (pc + 3) lv rest (ws' u)) : ig_W p l e R s m args below meth c D cl A H0 nL cells slots Q pc lv st ws :=
  ig_gov hA isC isR isB hC hR hCn hRn hBn hB1 hB2 (fun H locs ls hl hPc hDc => va_runS (As := As) (rest := rest) ⟨hx, hb, hml, hown, hts⟩ (hM H.size) cw ⟨ig_blind, ig_pre hK hN hPc hDc⟩ rfl hn hl.1 hst (lv_room hroom) hd hf) kk
theorem ig_cSNv {S : Type} {post : S → Prop} {w ws' : S → va_W} {wc wr : va_W} {As rest : List Value} (hx : p.tables.exec = Jvm.exec) (hb : c.code = cc) (hml : c.maxLocals = nL) {own : String} (hown : s.vm.findClass own = some m.cls) (hts : ∀ w ∈ ig_T, w.before args s = true) (hK : va_K D cl tys s) (hN : ig_N s) (hA : ∀ q : Nat, H0.size ≤ q → A q) {y : MethodName} {wy : List Cond} {rm : Room} {bytes : ByteArray} {maxL index n : Nat} {ret : Option FieldType} {host : String} (hM : ∀ sz : Nat, Met l y wy rm (ig_Pc D cl tys As wc sz) (va_Qv post (fun u t => va_P D cl (w u) t.heap ∧ va_D (va_A wc sz) (w u)) (va_A wc sz)) 0 0 (va_A wc sz)) (cw : va_CN R s args own index y host bytes maxL ret wy rm 0 0 n ∧ (Cond.static y).before args s = true ∧ True) (hn : As.length = n) (hst : st = As.reverse ++ rest) (hroom : (rest.map fun v => v.category).sum ≤ 8) (hd : decode cc pc = .ok (.invokestatic index, 3)) (hf : cells + 0 ≤ R.cells ∧ slots + 0 ≤ R.slots) (isC isR isB : List Nat) (hC : isC.map (fun i => ws[i]?) = wc.map some) (hR : isR.map (fun i => ws[i]?) = wr.map some) (hCn : va_nd isC = true) (hRn : va_nd isR = true ∧ ∀ i ∈ isR, i ∉ isC) (hBn : va_nd isB = true) (hB1 : ∀ u : S, isB.filterMap (fun i => (wr ++ w u)[i]?) = ws' u) (hB2 : ∀ u : S, isB.map (fun i => (wr ++ w u)[i]?) = (ws' u).map some)
    (kk : ∀ u : S, post u → ig_W p l e R s m args below meth c D cl A H0 nL cells slots Q (pc + 3) lv rest (ws' u)) : ig_W p l e R s m args below meth c D cl A H0 nL cells slots Q pc lv st ws :=
  ig_gov hA isC isR isB hC hR hCn hRn hBn hB1 hB2 (fun H locs ls hl hPc hDc => va_runSN (As := As) (rest := rest) ⟨hx, hb, hml, hown, hts⟩ (hM H.size) cw ⟨ig_blind, ig_pre hK hN hPc hDc⟩ rfl hn hl.1 hst (lv_room hroom) hd hf) kk
end IGC
theorem ig_inc (a k : Nat) (h : Int32.ofInt (k : Int) = nI k) : nI a + Int32.ofInt (k : Int) = nI (a + k) := by rw [h, nI_add]
theorem ig_dec {a : Nat} (k : Nat) (hk : k ≤ a) (h : Int32.ofInt (-(k : Int)) = -nI k) : nI a + Int32.ofInt (-(k : Int)) = nI (a - k) := by
  rw [h, ← Int32.sub_eq_add_neg, pk_sub hk]
theorem ig_decP {a : Nat} (hk : 1 ≤ a) : nI a - 1 + Int32.ofInt (-1) = nI (a - 1) - 1 := by
  have h : Int32.ofInt (-1) = -1 := by decide
  cases a with
  | zero => omega
  | succ j =>
    rw [nI_pred, h, ← Int32.sub_eq_add_neg]
    rfl
theorem ig_toP (a : Nat) : nI a + Int32.ofInt (-1) = nI a - 1 := by
  have h : Int32.ofInt (-1) = -1 := by decide
  rw [h, ← Int32.sub_eq_add_neg]
theorem bI_fit (b : Bool) : fits .boolean (.int (bI b)) = true := by cases b <;> rfl
theorem ig_T_good {y : MethodName} {cc : ByteArray} {maxL : Nat} {ret : Option FieldType} (h : Cond.code y cc maxL ret ∈ ig_T) : GoodIn ig_T (Cond.code y cc maxL ret :: ig_T) := by
  intro w hw
  have hm : w ∈ ig_T := by
    rcases List.mem_cons.mp hw with rfl | h1
    · exact h
    · exact h1
  exact ⟨hm, good_of_word (List.mem_filter.mp hm).2⟩
end
section
theorem fk_0 {s : State} (h : ig_N s) : va_Nw (.fieldLinkNest "IgnoreRules$Matcher" 34 "IgnoreRules$RuleList" "text" "[C" "IgnoreRules") s := by
  have h1 := h.1 _ nf_0
  exact h1
theorem fk_1 {s : State} (h : ig_N s) : va_Nw (.fieldLinkNest "IgnoreRules" 106 "IgnoreRules$RuleList" "text" "[C" "IgnoreRules") s := by
  have h1 := h.1 _ nf_1
  exact h1
theorem fk_2 {s : State} (h : ig_N s) : va_Nw (.fieldLinkNest "IgnoreRules$Matcher" 28 "IgnoreRules$RuleList" "starts" "[I" "IgnoreRules") s := by
  have h1 := h.1 _ nf_2
  exact h1
theorem fk_3 {s : State} (h : ig_N s) : va_Nw (.fieldLinkNest "IgnoreRules$Matcher" 31 "IgnoreRules$RuleList" "ends" "[I" "IgnoreRules") s := by
  have h1 := h.1 _ nf_3
  exact h1
theorem fk_4 {s : State} (h : ig_N s) : va_Nw (.fieldLinkNest "IgnoreRules$Matcher" 18 "IgnoreRules$RuleList" "bits" "[I" "IgnoreRules") s := by
  have h1 := h.1 _ nf_4
  exact h1
theorem fk_5 {s : State} (h : ig_N s) : va_Nw (.fieldLinkNest "IgnoreRules" 61 "IgnoreRules$RuleList" "bits" "[I" "IgnoreRules") s := by
  have h1 := h.1 _ nf_5
  exact h1
theorem fk_6 {s : State} (h : ig_N s) : va_Nw (.fieldLinkNest "IgnoreRules" 69 "IgnoreRules$RuleList" "lines" "[I" "IgnoreRules") s := by
  have h1 := h.1 _ nf_6
  exact h1
theorem fk_7 {s : State} (h : ig_N s) : va_Nw (.fieldLinkNest "IgnoreRules" 54 "IgnoreRules$RuleList" "count" "I" "IgnoreRules") s := by
  have h1 := h.1 _ nf_7
  exact h1
theorem fk_8 {s : State} (h : ig_N s) : va_Nw (.fieldLinkNest "IgnoreRules$Matcher" 67 "IgnoreRules$Path" "bytes" "[C" "IgnoreRules") s := by
  have h1 := h.1 _ nf_8
  exact h1
theorem fk_9 {s : State} (h : ig_N s) : va_Nw (.fieldLinkNest "IgnoreRules$Matcher" 54 "IgnoreRules$Path" "starts" "[I" "IgnoreRules") s := by
  have h1 := h.1 _ nf_9
  exact h1
theorem fk_10 {s : State} (h : ig_N s) : va_Nw (.fieldLinkNest "IgnoreRules" 75 "IgnoreRules$Path" "count" "I" "IgnoreRules") s := by
  have h1 := h.1 _ nf_10
  exact h1
theorem nk_0 {s : State} (h : ig_N s) : va_Nw (.methodLinkNest "IgnoreRules" 15 y_RL_init "IgnoreRules") s := by
  have h1 := h.2 _ nm_0
  exact h1
theorem nk_1 {s : State} (h : ig_N s) : va_Nw (.methodLinkNest "IgnoreRules" 25 y_PA_init "IgnoreRules") s := by
  have h1 := h.2 _ nm_1
  exact h1
theorem nk_2 {s : State} (h : ig_N s) : va_Nw (.methodLinkNest "IgnoreRules" 32 y_MA_init "IgnoreRules") s := by
  have h1 := h.2 _ nm_2
  exact h1
theorem nk_3 {s : State} (h : ig_N s) : va_Nw (.methodLinkNest "IgnoreRules" 50 y_RL_load "IgnoreRules") s := by
  have h1 := h.2 _ nm_3
  exact h1
theorem nk_4 {s : State} (h : ig_N s) : va_Nw (.methodLinkNest "IgnoreRules$RuleList" 50 y_IT_areWhole "IgnoreRules") s := by
  have h1 := h.2 _ nm_4
  exact h1
theorem nk_5 {s : State} (h : ig_N s) : va_Nw (.methodLinkNest "IgnoreRules" 74 y_PA_load "IgnoreRules") s := by
  have h1 := h.2 _ nm_5
  exact h1
theorem nk_6 {s : State} (h : ig_N s) : va_Nw (.methodLinkNest "IgnoreRules" 65 y_RL_countNames "IgnoreRules") s := by
  have h1 := h.2 _ nm_6
  exact h1
theorem nk_7 {s : State} (h : ig_N s) : va_Nw (.methodLinkNest "IgnoreRules" 79 y_MA_ruleFits "IgnoreRules") s := by
  have h1 := h.2 _ nm_7
  exact h1
theorem nk_8 {s : State} (h : ig_N s) : va_Nw (.methodLinkNest "IgnoreRules$Matcher" 57 y_PA_lengthOf "IgnoreRules") s := by
  have h1 := h.2 _ nm_8
  exact h1
theorem nk_9 {s : State} (h : ig_N s) : va_Nw (.methodLinkNest "IgnoreRules$Matcher" 61 y_IT_lastByte "IgnoreRules") s := by
  have h1 := h.2 _ nm_9
  exact h1
theorem nk_10 {s : State} (h : ig_N s) : va_Nw (.methodLinkNest "IgnoreRules$Matcher" 70 y_IT_take "IgnoreRules") s := by
  have h1 := h.2 _ nm_10
  exact h1
theorem nk_11 {s : State} (h : ig_N s) : va_Nw (.methodLinkNest "IgnoreRules" 102 y_RL_nameStart "IgnoreRules") s := by
  have h1 := h.2 _ nm_11
  exact h1
theorem nk_12 {s : State} (h : ig_N s) : va_Nw (.methodLinkNest "IgnoreRules" 109 y_RL_nameEnd "IgnoreRules") s := by
  have h1 := h.2 _ nm_12
  exact h1
theorem nk_13 {s : State} (h : ig_N s) : va_Nw (.methodLinkNest "IgnoreRules" 112 y_MA_nameFits "IgnoreRules") s := by
  have h1 := h.2 _ nm_13
  exact h1
end
section
/-! What both sides compute, over a text t (a place k holds t k) -/
/-- how many \ stand right before k, none before b counted -/
def sp_run (t : Nat → Int32) (b : Nat) : Nat → Nat
  | 0 => 0
  | k + 1 => if b ≤ k ∧ t k = 92 then sp_run t b k + 1 else 0
def sp_esc (t : Nat → Int32) (b k : Nat) : Bool := sp_run t b k % 2 == 1
theorem sp_run_le (t : Nat → Int32) (b : Nat) : ∀ k, sp_run t b k ≤ k
  | 0 => Nat.le_refl _
  | k + 1 => by
    rw [sp_run]
    split
    · exact Nat.succ_le_succ (sp_run_le t b k)
    · exact Nat.zero_le _
theorem sp_run_b {t : Nat → Int32} {b k : Nat} (h : b ≤ k) : b ≤ k - sp_run t b k := by
  induction k with
  | zero => simp [sp_run]; omega
  | succ k ih =>
    rw [sp_run]
    split
    · rename_i hc
      have := ih hc.1
      omega
    · omega
/-- the places that are counted hold \ -/
theorem sp_run_in {t : Nat → Int32} {b k : Nat} : ∀ j, j < k → k - sp_run t b k ≤ j → t j = 92 := by
  induction k with
  | zero => intro j h; omega
  | succ k ih =>
    intro j h1 h2
    rw [sp_run] at h2
    split at h2
    · rename_i hc
      by_cases hj : j = k
      · rw [hj]; exact hc.2
      · exact ih j (by omega) (by omega)
    · omega
/-- and the one before them doesn't -/
theorem sp_run_at {t : Nat → Int32} {b k q : Nat} (h1 : b ≤ q) (h2 : q ≤ k) (hin : ∀ j, q ≤ j → j < k → t j = 92) (hend : q ≤ b ∨ ¬ t (q - 1) = 92) : sp_run t b k = k - q := by
  induction k with
  | zero => simp [sp_run]
  | succ k ih =>
    rw [sp_run]
    by_cases hq : q = k + 1
    · rw [if_neg]
      · omega
      · rintro ⟨hb, ht⟩
        rcases hend with h | h
        · omega
        · apply h
          rw [hq]
          exact ht
    · rw [if_pos ⟨by omega, hin k (by omega) (by omega)⟩, ih (by omega) (fun j a b => hin j a (by omega))]
      omega
def sp_strip (t : Nat → Int32) (b : Nat) : Nat → Nat
  | 0 => 0
  | e + 1 => if b ≤ e ∧ t e = 32 ∧ sp_esc t b e = false then sp_strip t b e else e + 1
theorem sp_strip_le (t : Nat → Int32) (b : Nat) : ∀ e, sp_strip t b e ≤ e
  | 0 => Nat.le_refl _
  | e + 1 => by
    rw [sp_strip]
    split
    · exact Nat.le_succ_of_le (sp_strip_le t b e)
    · exact Nat.le_refl _
theorem sp_strip_ge {t : Nat → Int32} {b : Nat} : ∀ e, b ≤ e → b ≤ sp_strip t b e
  | 0, h => by rw [sp_strip]; exact h
  | e + 1, h => by
    rw [sp_strip]
    split
    · rename_i hc
      exact sp_strip_ge e hc.1
    · exact h
/-- the end of the name that begins at k: the next /, or e -/
def sp_eon (t : Nat → Int32) (e k : Nat) : Nat :=
  if k < e then (if t k = 47 then k else sp_eon t e (k + 1)) else k
termination_by e - k
decreasing_by omega
theorem sp_eon_ge (t : Nat → Int32) (e k : Nat) : k ≤ sp_eon t e k := by
  rw [sp_eon]
  split
  · split
    · exact Nat.le_refl _
    · exact Nat.le_trans (Nat.le_succ k) (sp_eon_ge t e (k + 1))
  · exact Nat.le_refl _
termination_by e - k
decreasing_by omega
theorem sp_eon_le {t : Nat → Int32} {e k : Nat} (h : k ≤ e) : sp_eon t e k ≤ e := by
  rw [sp_eon]
  split
  · split
    · exact h
    · rename_i h1 _
      exact sp_eon_le h1
  · exact h
termination_by e - k
decreasing_by omega
/-- how many / stand in [k, e) -/
def sp_cnt (t : Nat → Int32) (e k : Nat) : Nat :=
  if k < e then (if t k = 47 then 1 else 0) + sp_cnt t e (k + 1) else 0
termination_by e - k
decreasing_by omega
/-- a set's items -/
def sp_tok (t : Nat → Int32) (k : Nat) : Nat := if t k = 92 then k + 2 else k + 1
def sp_byte (t : Nat → Int32) (k : Nat) : Int32 := if t k = 92 then t (k + 1) else t k
def sp_sf (t : Nat → Int32) (e k : Nat) : Nat := if k + 1 < e ∧ (t (k + 1) = 33 ∨ t (k + 1) = 94) then k + 2 else k + 1
def sp_row (t : Nat → Int32) (e k : Nat) : Bool := decide (k + 1 < e ∧ t k = 45 ∧ ¬ t (k + 1) = 93)
def sp_nx (t : Nat → Int32) (e a : Nat) : Nat := if sp_row t e (sp_tok t a) = true then sp_tok t (sp_tok t a + 1) else sp_tok t a
theorem sp_tok_gt (t : Nat → Int32) (k : Nat) : k < sp_tok t k := by rw [sp_tok]; split <;> omega
theorem sp_nx_gt (t : Nat → Int32) (e a : Nat) : a < sp_nx t e a := by
  have h1 := sp_tok_gt t a
  have h2 := sp_tok_gt t (sp_tok t a + 1)
  rw [sp_nx]
  split <;> omega
/-- behind the set's ]; e + 1 if there is none -/
def sp_se (t : Nat → Int32) (e a : Nat) (first : Bool) : Nat :=
  if a < e then (if first = true ∨ ¬ t a = 93 then sp_se t e (sp_nx t e a) false else a + 1) else e + 1
termination_by e - a
decreasing_by
  have := sp_nx_gt t e a
  omega
/-- the same, byte by byte -/
def sp_sb (t : Nat → Int32) (e a : Nat) (first : Bool) : Nat :=
  if a < e then (if first = true ∨ ¬ t a = 93 then sp_sb t e (sp_tok t a) false else a + 1) else e + 1
termination_by e - a
decreasing_by
  have := sp_tok_gt t a
  omega
theorem sp_sb_se (t : Nat → Int32) (e a : Nat) (first : Bool) : sp_sb t e a first = sp_se t e a first := by
  rw [sp_sb, sp_se]
  split
  · split
    · rw [sp_nx]
      split
      · rename_i h1 h2 h3
        simp only [sp_row, decide_eq_true_eq] at h3
        obtain ⟨r1, r2, r3⟩ := h3
        rw [sp_sb, if_pos (by omega : sp_tok t a < e), if_pos (Or.inr (by rw [r2]; decide))]
        have e1 : sp_tok t (sp_tok t a) = sp_tok t a + 1 := by
          rw [sp_tok, if_neg (by rw [r2]; decide)]
        rw [e1, sp_sb, if_pos r1, if_pos (Or.inr r3)]
        have := sp_tok_gt t (sp_tok t a + 1)
        have := sp_tok_gt t a
        exact sp_sb_se t e (sp_tok t (sp_tok t a + 1)) false
      · have := sp_tok_gt t a
        exact sp_sb_se t e (sp_tok t a) false
    · rfl
  · rfl
termination_by e - a
decreasing_by all_goals omega
theorem sp_se_gt {t : Nat → Int32} {e a : Nat} {first : Bool} (h : a ≤ e) : a < sp_se t e a first := by
  rw [sp_se]
  split
  · split
    · have h1 := sp_nx_gt t e a
      by_cases h2 : sp_nx t e a ≤ e
      · exact Nat.lt_trans h1 (sp_se_gt h2)
      · rw [sp_se, if_neg (by omega)]
        omega
    · omega
  · omega
termination_by e - a
decreasing_by omega
/-- whether a set holds c, from its item at a on -/
def sp_hi (t : Nat → Int32) (e a : Nat) : Int32 := if sp_row t e (sp_tok t a) = true then sp_byte t (sp_tok t a + 1) else sp_byte t a
def sp_has (t : Nat → Int32) (e : Nat) (c : Int32) (a : Nat) (first : Bool) : Bool :=
  if a < e then (if first = true ∨ ¬ t a = 93 then (decide (sp_byte t a ≤ c ∧ c ≤ sp_hi t e a) || sp_has t e c (sp_nx t e a) false) else false) else false
termination_by e - a
decreasing_by
  have := sp_nx_gt t e a
  omega
/-- behind the item at k; more than e if the name ends within it -/
def sp_end (t : Nat → Int32) (e k : Nat) : Nat := if t k = 92 then k + 2 else if t k = 91 then sp_se t e (sp_sf t e k) true else k + 1
theorem sp_sf_gt (t : Nat → Int32) (e k : Nat) : k < sp_sf t e k := by rw [sp_sf]; split <;> omega
theorem sp_sf_le {t : Nat → Int32} {e k : Nat} (h : k < e) : sp_sf t e k ≤ e := by rw [sp_sf]; split <;> omega
theorem sp_end_gt {t : Nat → Int32} {e k : Nat} (h : k < e) : k < sp_end t e k := by
  rw [sp_end]
  split
  · omega
  · split
    · exact Nat.lt_trans (sp_sf_gt t e k) (sp_se_gt (sp_sf_le h))
    · omega
/-- whether an item that is no star takes c -/
def sp_take (t : Nat → Int32) (e k : Nat) (c : Int32) : Bool :=
  if t k = 63 then true else if t k = 91 then (sp_has t e c (sp_sf t e k) true != decide (sp_sf t e k = k + 2)) else decide (sp_byte t k = c)
/-- whether the name ends within an item, from k on -/
def sp_void (t : Nat → Int32) (e k : Nat) : Bool :=
  if h : k < e then (if sp_end t e k ≤ e then sp_void t e (sp_end t e k) else true) else false
termination_by e - k
decreasing_by
  have := sp_end_gt (t := t) h
  omega
/-- whether the items from k on take the bytes from i on, to the last -/
def sp_fit (t : Nat → Int32) (e : Nat) (P : Nat → Int32) (n k i : Nat) : Bool :=
  if h : k < e then
    (if sp_end t e k ≤ e then
      (if t k = 42 then (sp_fit t e P n (sp_end t e k) i || (if i < n then sp_fit t e P n k (i + 1) else false))
       else (if i < n then (sp_take t e k (P i) && sp_fit t e P n (sp_end t e k) (i + 1)) else false))
     else false)
  else decide (i = n)
termination_by (e - k, n - i)
decreasing_by
  all_goals simp_wf
  · have := sp_end_gt (t := t) h
    omega
  · omega
  · have := sp_end_gt (t := t) h
    omega
/-- where the item at k has its last byte; -1 if the name ends within it -/
def sp_last (t : Nat → Int32) (e k : Nat) : Int32 := if sp_end t e k ≤ e then nI (sp_end t e k - 1) else -1
/-- whether a name in [k, e) is void -/
def sp_hv (t : Nat → Int32) (e k : Nat) : Bool :=
  (decide (k = sp_eon t e k) || sp_void t (sp_eon t e k) k) || (if h : sp_eon t e k < e then sp_hv t e (sp_eon t e k + 1) else false)
termination_by e - k
decreasing_by
  have := sp_eon_ge t e k
  omega
/-- where the name number n from k on begins -/
def sp_nst (t : Nat → Int32) (e : Nat) : Nat → Nat → Nat
  | 0, k => k
  | n + 1, k => sp_nst t e n (sp_eon t e k + 1)
/-- whether the name [f, a) fits name j of the path -/
def sp_nf (t : Nat → Int32) (pB : Nat → Int32) (pS : Nat → Nat) (f a j : Nat) : Bool := sp_fit t a (fun i => pB (pS j + i)) (pS (j + 1) - 1 - pS j) f 0
/-- the kind of the item at k: 0 a byte, 1 ?, 2 *, 3 a set, 4 the name ends within it -/
def sp_sort (t : Nat → Int32) (e k : Nat) : Nat := if t k = 92 then (if k + 1 < e then 0 else 4) else if t k = 91 then (if sp_end t e k > e then 4 else 3) else if t k = 63 then 1 else if t k = 42 then 2 else 0
end
section
/-! names against names: rows over the bytes (class), rows over the places (reference) -/
theorem sp_end_star {t : Nat → Int32} {e k : Nat} (hs : t k = 42) : sp_end t e k = k + 1 := by
  rw [sp_end, if_neg (by rw [hs]; decide), if_neg (by rw [hs]; decide)]
theorem sp_fit_end {t : Nat → Int32} {e : Nat} {P : Nat → Int32} {n k i : Nat} (hk : ¬ k < e) : sp_fit t e P n k i = decide (i = n) := by
  rw [sp_fit, dif_neg hk]
theorem sp_fit_void {t : Nat → Int32} {e : Nat} {P : Nat → Int32} {n k i : Nat} (hk : k < e) (he : ¬ sp_end t e k ≤ e) : sp_fit t e P n k i = false := by
  rw [sp_fit, dif_pos hk, if_neg he]
theorem sp_fit_one {t : Nat → Int32} {e : Nat} {P : Nat → Int32} {n k i : Nat} (hk : k < e) (he : sp_end t e k ≤ e) (hs : ¬ t k = 42) : sp_fit t e P n k i = true ↔ i < n ∧ sp_take t e k (P i) = true ∧ sp_fit t e P n (sp_end t e k) (i + 1) = true := by
  rw [sp_fit, dif_pos hk, if_pos he, if_neg hs]
  by_cases hi : i < n
  · rw [if_pos hi]; simp [hi]
  · rw [if_neg hi]; simp [hi]
theorem sp_fit_s1 {t : Nat → Int32} {e : Nat} {P : Nat → Int32} {n k i : Nat} (hk : k < e) (hs : t k = 42) : sp_fit t e P n k i = true ↔ sp_fit t e P n (k + 1) i = true ∨ (i < n ∧ sp_fit t e P n k (i + 1) = true) := by
  rw [sp_fit, dif_pos hk, if_pos (by rw [sp_end_star hs]; omega), if_pos hs, sp_end_star hs]
  by_cases hi : i < n
  · rw [if_pos hi]; simp [hi]
  · rw [if_neg hi]; simp [hi]
theorem sp_fit_star {t : Nat → Int32} {e : Nat} {P : Nat → Int32} {n k : Nat} (hk : k < e) (hs : t k = 42) : ∀ d i, n - i = d → i ≤ n → (sp_fit t e P n k i = true ↔ ∃ j, i ≤ j ∧ j ≤ n ∧ sp_fit t e P n (k + 1) j = true) := by
  intro d
  induction d with
  | zero =>
    intro i hd hi
    rw [sp_fit_s1 hk hs]
    constructor
    · rintro (h | ⟨h, -⟩)
      · exact ⟨i, Nat.le_refl _, hi, h⟩
      · omega
    · rintro ⟨j, h1, h2, h3⟩
      have : j = i := by omega
      subst this
      exact Or.inl h3
  | succ d ih =>
    intro i hd hi
    rw [sp_fit_s1 hk hs, ih (i + 1) (by omega) (by omega)]
    constructor
    · rintro (h | ⟨h, j, h1, h2, h3⟩)
      · exact ⟨i, Nat.le_refl _, hi, h⟩
      · exact ⟨j, by omega, h2, h3⟩
    · rintro ⟨j, h1, h2, h3⟩
      by_cases hj : j = i
      · subst hj
        exact Or.inl h3
      · exact Or.inr ⟨by omega, j, by omega, h2, h3⟩
/-- some number of bytes that the row has leads on from k -/
def sp_ex (t : Nat → Int32) (e : Nat) (P : Nat → Int32) (n k : Nat) (row : Nat → Bool) : Prop := ∃ j, j ≤ n ∧ row j = true ∧ sp_fit t e P n k j = true
theorem sp_ex_end {t : Nat → Int32} {e : Nat} {P : Nat → Int32} {n k : Nat} {row : Nat → Bool} (hk : ¬ k < e) : sp_ex t e P n k row ↔ row n = true := by
  constructor
  · rintro ⟨j, h1, h2, h3⟩
    rw [sp_fit_end hk, decide_eq_true_eq] at h3
    rw [← h3]; exact h2
  · intro h
    exact ⟨n, Nat.le_refl _, h, by rw [sp_fit_end hk, decide_eq_true_eq]⟩
theorem sp_ex_void {t : Nat → Int32} {e : Nat} {P : Nat → Int32} {n k : Nat} {row : Nat → Bool} (hk : k < e) (he : ¬ sp_end t e k ≤ e) : ¬ sp_ex t e P n k row := by
  rintro ⟨j, -, -, h3⟩
  rw [sp_fit_void hk he] at h3
  cases h3
theorem sp_ex_star {t : Nat → Int32} {e : Nat} {P : Nat → Int32} {n k : Nat} {row row' : Nat → Bool} (hk : k < e) (hs : t k = 42) (hr : ∀ j, j ≤ n → (row' j = true ↔ ∃ i, i ≤ j ∧ row i = true)) : sp_ex t e P n k row ↔ sp_ex t e P n (k + 1) row' := by
  constructor
  · rintro ⟨i, h1, h2, h3⟩
    obtain ⟨j, j1, j2, j3⟩ := (sp_fit_star hk hs (n - i) i rfl h1).mp h3
    exact ⟨j, j2, (hr j j2).mpr ⟨i, j1, h2⟩, j3⟩
  · rintro ⟨j, h1, h2, h3⟩
    obtain ⟨i, i1, i2⟩ := (hr j h1).mp h2
    exact ⟨i, by omega, i2, (sp_fit_star hk hs (n - i) i rfl (by omega)).mpr ⟨j, i1, h1, h3⟩⟩
theorem sp_ex_one {t : Nat → Int32} {e : Nat} {P : Nat → Int32} {n k : Nat} {row row' : Nat → Bool} (hk : k < e) (he : sp_end t e k ≤ e) (hs : ¬ t k = 42) (h0 : row' 0 = false) (hr : ∀ j, j < n → (row' (j + 1) = true ↔ row j = true ∧ sp_take t e k (P j) = true)) : sp_ex t e P n k row ↔ sp_ex t e P n (sp_end t e k) row' := by
  constructor
  · rintro ⟨i, h1, h2, h3⟩
    obtain ⟨i1, i2, i3⟩ := (sp_fit_one hk he hs).mp h3
    exact ⟨i + 1, i1, (hr i i1).mpr ⟨h2, i2⟩, i3⟩
  · rintro ⟨j, h1, h2, h3⟩
    cases j with
    | zero => rw [h0] at h2; cases h2
    | succ j =>
      obtain ⟨r1, r2⟩ := (hr j h1).mp h2
      exact ⟨j, by omega, r1, (sp_fit_one hk he hs).mpr ⟨h1, r2, h3⟩⟩
theorem sp_ex_no {t : Nat → Int32} {e : Nat} {P : Nat → Int32} {n k : Nat} {row : Nat → Bool} (hr : ∀ j, j ≤ n → row j = false) : ¬ sp_ex t e P n k row := by
  rintro ⟨j, h1, h2, -⟩
  rw [hr j h1] at h2
  cases h2
/-- some place that is reached leads on, with the bytes from i on -/
def sp_rx (t : Nat → Int32) (e : Nat) (P : Nat → Int32) (n i b : Nat) (S : Nat → Bool) : Prop := ∃ k, b ≤ k ∧ k ≤ e ∧ S k = true ∧ sp_fit t e P n k i = true
/-- each star that is reached has the place behind it reached, too -/
def sp_cld (t : Nat → Int32) (e b : Nat) (S : Nat → Bool) : Prop := ∀ k, b ≤ k → k < e → S k = true → t k = 42 → S (k + 1) = true
theorem sp_rx_end {t : Nat → Int32} {e : Nat} {P : Nat → Int32} {n b : Nat} {S : Nat → Bool} (hb : b ≤ e) (hc : sp_cld t e b S) : sp_rx t e P n n b S ↔ S e = true := by
  constructor
  · rintro ⟨k, h1, h2, h3, h4⟩
    have key : ∀ d k, e - k = d → b ≤ k → k ≤ e → S k = true → sp_fit t e P n k n = true → S e = true := by
      intro d
      induction d with
      | zero => intro k hd hb hk hS _; have : k = e := by omega
                rw [← this]; exact hS
      | succ d ih =>
        intro k hd hb hk hS hf
        have hke : k < e := by omega
        by_cases hs : t k = 42
        · rw [sp_fit_s1 hke hs] at hf
          rcases hf with hf | ⟨hf, -⟩
          · exact ih (k + 1) (by omega) (by omega) (by omega) (hc k hb hke hS hs) hf
          · omega
        · by_cases he : sp_end t e k ≤ e
          · rw [sp_fit_one hke he hs] at hf
            omega
          · rw [sp_fit_void hke he] at hf
            cases hf
    exact key (e - k) k rfl h1 h2 h3 h4
  · intro h
    exact ⟨e, hb, Nat.le_refl _, h, by rw [sp_fit_end (Nat.lt_irrefl _), decide_eq_true_eq]⟩
/-- a byte is taken: where one comes from there -/
theorem sp_rx_step {t : Nat → Int32} {e : Nat} {P : Nat → Int32} {n i b : Nat} {S F : Nat → Bool} (hi : i < n) (hc : sp_cld t e b S) (hv : ∀ k, b ≤ k → k < e → S k = true → sp_end t e k ≤ e)
    (hF : ∀ q, b ≤ q → q ≤ e → (F q = true ↔ ∃ k, b ≤ k ∧ k < e ∧ S k = true ∧ (t k = 42 ∨ sp_take t e k (P i) = true) ∧ q = (if t k = 42 then k else sp_end t e k))) : sp_rx t e P n i b S ↔ sp_rx t e P n (i + 1) b F := by
  constructor
  · rintro ⟨k, h1, h2, h3, h4⟩
    have key : ∀ d k, e - k = d → b ≤ k → k ≤ e → S k = true → sp_fit t e P n k i = true → sp_rx t e P n (i + 1) b F := by
      intro d
      induction d with
      | zero =>
        intro k hd hb hk hS hf
        rw [sp_fit_end (by omega), decide_eq_true_eq] at hf
        omega
      | succ d ih =>
        intro k hd hb hk hS hf
        have hke : k < e := by omega
        by_cases hs : t k = 42
        · rw [sp_fit_s1 hke hs] at hf
          rcases hf with hf | ⟨-, hf⟩
          · exact ih (k + 1) (by omega) (by omega) (by omega) (hc k hb hke hS hs) hf
          · exact ⟨k, hb, hk, (hF k hb hk).mpr ⟨k, hb, hke, hS, Or.inl hs, by rw [if_pos hs]⟩, hf⟩
        · have he := hv k hb hke hS
          have hg := sp_end_gt (t := t) hke
          rw [sp_fit_one hke he hs] at hf
          exact ⟨sp_end t e k, by omega, he, (hF _ (by omega) he).mpr ⟨k, hb, hke, hS, Or.inr hf.2.1, by rw [if_neg hs]⟩, hf.2.2⟩
    exact key (e - k) k rfl h1 h2 h3 h4
  · rintro ⟨q, h1, h2, h3, h4⟩
    obtain ⟨k, k1, k2, k3, k4, k5⟩ := (hF q h1 h2).mp h3
    refine ⟨k, k1, Nat.le_of_lt k2, k3, ?_⟩
    by_cases hs : t k = 42
    · rw [if_pos hs] at k5
      rw [sp_fit_s1 k2 hs]
      exact Or.inr ⟨hi, by rw [← k5]; exact h4⟩
    · rw [if_neg hs] at k5
      rw [sp_fit_one k2 (hv k k1 k2 k3) hs]
      exact ⟨hi, k4.resolve_left hs, by rw [← k5]; exact h4⟩
/-- stars are passed: nothing is won or lost -/
theorem sp_rx_pass {t : Nat → Int32} {e : Nat} {P : Nat → Int32} {n i b q : Nat} {S : Nat → Bool} (hq : b ≤ q) (hqe : q < e) (hS : S q = true) (hs : t q = 42) : sp_rx t e P n i b (updB S (q + 1) true) ↔ sp_rx t e P n i b S := by
  constructor
  · rintro ⟨k, h1, h2, h3, h4⟩
    by_cases hk : k = q + 1
    · subst hk
      exact ⟨q, hq, by omega, hS, by rw [sp_fit_s1 hqe hs]; exact Or.inl h4⟩
    · rw [updB_n hk] at h3
      exact ⟨k, h1, h2, h3, h4⟩
  · rintro ⟨k, h1, h2, h3, h4⟩
    refine ⟨k, h1, h2, ?_, h4⟩
    by_cases hk : k = q + 1
    · rw [hk]; exact updB_s
    · rw [updB_n hk]; exact h3
end
section
/-! a bound rule's names against a path's first n names: F k q j tells whether the name [k, q) fits name j -/
def sp_deep (t : Nat → Int32) (k q : Nat) : Bool := decide (q = k + 2 ∧ t k = 42 ∧ t (k + 1) = 42)
def sp_H (t : Nat → Int32) (e n : Nat) (F : Nat → Nat → Nat → Bool) (k j : Nat) : Bool :=
  if h : k ≤ e then
    (if sp_deep t k (sp_eon t e k) = true then
      (if hq : sp_eon t e k = e then decide (j < n) else (sp_H t e n F (sp_eon t e k + 1) j || (if hj : j < n then sp_H t e n F k (j + 1) else false)))
    else (if hj : j < n then (F k (sp_eon t e k) j && (if hq : sp_eon t e k = e then decide (j + 1 = n) else sp_H t e n F (sp_eon t e k + 1) (j + 1))) else false))
  else false
termination_by (e + 1 - k, n - j)
decreasing_by
  · have := sp_eon_ge t e k
    apply Prod.Lex.left
    omega
  · apply Prod.Lex.right
    omega
  · have := sp_eon_ge t e k
    apply Prod.Lex.left
    omega
theorem sp_H_dl {t : Nat → Int32} {e n : Nat} {F : Nat → Nat → Nat → Bool} {k j : Nat} (hk : k ≤ e) (hd : sp_deep t k (sp_eon t e k) = true) (hq : sp_eon t e k = e) : sp_H t e n F k j = true ↔ j < n := by
  rw [sp_H, dif_pos hk, if_pos hd, dif_pos hq, decide_eq_true_eq]
theorem sp_H_dn {t : Nat → Int32} {e n : Nat} {F : Nat → Nat → Nat → Bool} {k j : Nat} (hk : k ≤ e) (hd : sp_deep t k (sp_eon t e k) = true) (hq : ¬ sp_eon t e k = e) : sp_H t e n F k j = true ↔ sp_H t e n F (sp_eon t e k + 1) j = true ∨ (j < n ∧ sp_H t e n F k (j + 1) = true) := by
  rw [sp_H, dif_pos hk, if_pos hd, dif_neg hq]
  by_cases hj : j < n
  · rw [dif_pos hj]; simp [hj]
  · rw [dif_neg hj]; simp [hj]
theorem sp_H_pl {t : Nat → Int32} {e n : Nat} {F : Nat → Nat → Nat → Bool} {k j : Nat} (hk : k ≤ e) (hd : ¬ sp_deep t k (sp_eon t e k) = true) (hq : sp_eon t e k = e) : sp_H t e n F k j = true ↔ j < n ∧ F k (sp_eon t e k) j = true ∧ j + 1 = n := by
  rw [sp_H, dif_pos hk, if_neg hd]
  by_cases hj : j < n
  · rw [dif_pos hj, dif_pos hq]; simp [hj]
  · rw [dif_neg hj]; simp [hj]
theorem sp_H_pn {t : Nat → Int32} {e n : Nat} {F : Nat → Nat → Nat → Bool} {k j : Nat} (hk : k ≤ e) (hd : ¬ sp_deep t k (sp_eon t e k) = true) (hq : ¬ sp_eon t e k = e) : sp_H t e n F k j = true ↔ j < n ∧ F k (sp_eon t e k) j = true ∧ sp_H t e n F (sp_eon t e k + 1) (j + 1) = true := by
  rw [sp_H, dif_pos hk, if_neg hd]
  by_cases hj : j < n
  · rw [dif_pos hj, dif_neg hq]; simp [hj]
  · rw [dif_neg hj]; simp [hj]
theorem sp_H_deep {t : Nat → Int32} {e n : Nat} {F : Nat → Nat → Nat → Bool} {k : Nat} (hk : k ≤ e) (hd : sp_deep t k (sp_eon t e k) = true) (hq : ¬ sp_eon t e k = e) : ∀ d i, n - i = d → i ≤ n → (sp_H t e n F k i = true ↔ ∃ j, i ≤ j ∧ j ≤ n ∧ sp_H t e n F (sp_eon t e k + 1) j = true) := by
  intro d
  induction d with
  | zero =>
    intro i hd0 hi
    rw [sp_H_dn hk hd hq]
    constructor
    · rintro (h | ⟨h, -⟩)
      · exact ⟨i, Nat.le_refl _, hi, h⟩
      · omega
    · rintro ⟨j, h1, h2, h3⟩
      have : j = i := by omega
      subst this
      exact Or.inl h3
  | succ d ih =>
    intro i hd0 hi
    rw [sp_H_dn hk hd hq, ih (i + 1) (by omega) (by omega)]
    constructor
    · rintro (h | ⟨h, j, h1, h2, h3⟩)
      · exact ⟨i, Nat.le_refl _, hi, h⟩
      · exact ⟨j, by omega, h2, h3⟩
    · rintro ⟨j, h1, h2, h3⟩
      by_cases hj : j = i
      · subst hj
        exact Or.inl h3
      · exact Or.inr ⟨by omega, j, by omega, h2, h3⟩
/-- some number of names that the row has leads on from the name at k -/
def sp_hx (t : Nat → Int32) (e n : Nat) (F : Nat → Nat → Nat → Bool) (k : Nat) (row : Nat → Bool) : Prop := ∃ j, j ≤ n ∧ row j = true ∧ sp_H t e n F k j = true
theorem sp_hx_dn {t : Nat → Int32} {e n : Nat} {F : Nat → Nat → Nat → Bool} {k : Nat} {row row' : Nat → Bool} (hk : k ≤ e) (hd : sp_deep t k (sp_eon t e k) = true) (hq : ¬ sp_eon t e k = e) (hr : ∀ j, j ≤ n → (row' j = true ↔ ∃ i, i ≤ j ∧ row i = true)) : sp_hx t e n F k row ↔ sp_hx t e n F (sp_eon t e k + 1) row' := by
  constructor
  · rintro ⟨i, h1, h2, h3⟩
    obtain ⟨j, j1, j2, j3⟩ := (sp_H_deep hk hd hq (n - i) i rfl h1).mp h3
    exact ⟨j, j2, (hr j j2).mpr ⟨i, j1, h2⟩, j3⟩
  · rintro ⟨j, h1, h2, h3⟩
    obtain ⟨i, i1, i2⟩ := (hr j h1).mp h2
    exact ⟨i, by omega, i2, (sp_H_deep hk hd hq (n - i) i rfl (by omega)).mpr ⟨j, i1, h1, h3⟩⟩
theorem sp_hx_dl {t : Nat → Int32} {e n : Nat} {F : Nat → Nat → Nat → Bool} {k : Nat} {row row' : Nat → Bool} (hn : 1 ≤ n) (hk : k ≤ e) (hd : sp_deep t k (sp_eon t e k) = true) (hq : sp_eon t e k = e) (hr : ∀ j, j ≤ n → (row' j = true ↔ ∃ i, i ≤ j ∧ row i = true)) : sp_hx t e n F k row ↔ row' (n - 1) = true := by
  constructor
  · rintro ⟨i, h1, h2, h3⟩
    rw [sp_H_dl hk hd hq] at h3
    exact (hr (n - 1) (by omega)).mpr ⟨i, by omega, h2⟩
  · intro h
    obtain ⟨i, i1, i2⟩ := (hr (n - 1) (by omega)).mp h
    exact ⟨i, by omega, i2, (sp_H_dl hk hd hq).mpr (by omega)⟩
theorem sp_hx_pn {t : Nat → Int32} {e n : Nat} {F : Nat → Nat → Nat → Bool} {k : Nat} {row row' : Nat → Bool} (hk : k ≤ e) (hd : ¬ sp_deep t k (sp_eon t e k) = true) (hq : ¬ sp_eon t e k = e) (h0 : row' 0 = false) (hr : ∀ j, j < n → (row' (j + 1) = true ↔ row j = true ∧ F k (sp_eon t e k) j = true)) : sp_hx t e n F k row ↔ sp_hx t e n F (sp_eon t e k + 1) row' := by
  constructor
  · rintro ⟨i, h1, h2, h3⟩
    obtain ⟨i1, i2, i3⟩ := (sp_H_pn hk hd hq).mp h3
    exact ⟨i + 1, i1, (hr i i1).mpr ⟨h2, i2⟩, i3⟩
  · rintro ⟨j, h1, h2, h3⟩
    cases j with
    | zero => rw [h0] at h2; cases h2
    | succ j =>
      obtain ⟨r1, r2⟩ := (hr j h1).mp h2
      exact ⟨j, by omega, r1, (sp_H_pn hk hd hq).mpr ⟨h1, r2, h3⟩⟩
theorem sp_hx_pl {t : Nat → Int32} {e n : Nat} {F : Nat → Nat → Nat → Bool} {k : Nat} {row : Nat → Bool} (hn : 1 ≤ n) (hk : k ≤ e) (hd : ¬ sp_deep t k (sp_eon t e k) = true) (hq : sp_eon t e k = e) : sp_hx t e n F k row ↔ row (n - 1) = true ∧ F k (sp_eon t e k) (n - 1) = true := by
  constructor
  · rintro ⟨i, h1, h2, h3⟩
    obtain ⟨i1, i2, i3⟩ := (sp_H_pl hk hd hq).mp h3
    have : i = n - 1 := by omega
    subst this
    exact ⟨h2, i2⟩
  · rintro ⟨h1, h2⟩
    exact ⟨n - 1, by omega, h1, (sp_H_pl hk hd hq).mpr ⟨by omega, h2, by omega⟩⟩
end
section
/-! what is computed of a stretch depends on that stretch alone -/
theorem sp_run_c {t u : Nat → Int32} {b : Nat} : ∀ k, (∀ j, j < k → t j = u j) → sp_run t b k = sp_run u b k
  | 0, _ => rfl
  | k + 1, h => by
    rw [sp_run, sp_run, h k (Nat.lt_succ_self k), sp_run_c k (fun j hj => h j (Nat.lt_succ_of_lt hj))]
theorem sp_esc_c {t u : Nat → Int32} {b k : Nat} (h : ∀ j, j < k → t j = u j) : sp_esc t b k = sp_esc u b k := by
  rw [sp_esc, sp_esc, sp_run_c k h]
theorem sp_strip_c {t u : Nat → Int32} {b : Nat} : ∀ k, (∀ j, j < k → t j = u j) → sp_strip t b k = sp_strip u b k
  | 0, _ => rfl
  | k + 1, h => by
    rw [sp_strip, sp_strip, h k (Nat.lt_succ_self k), sp_esc_c (fun j hj => h j (Nat.lt_succ_of_lt hj)), sp_strip_c k (fun j hj => h j (Nat.lt_succ_of_lt hj))]
theorem sp_eon_c {t u : Nat → Int32} {e : Nat} (h : ∀ j, j < e → t j = u j) (k : Nat) : sp_eon t e k = sp_eon u e k := by
  rw [sp_eon.eq_1 t e k, sp_eon.eq_1 u e k]
  by_cases hk : k < e
  · rw [if_pos hk, if_pos hk, h k hk, sp_eon_c h (k + 1)]
  · rw [if_neg hk, if_neg hk]
termination_by e - k
decreasing_by omega
theorem sp_cnt_c {t u : Nat → Int32} {e : Nat} (h : ∀ j, j < e → t j = u j) (k : Nat) : sp_cnt t e k = sp_cnt u e k := by
  rw [sp_cnt.eq_1 t e k, sp_cnt.eq_1 u e k]
  by_cases hk : k < e
  · rw [if_pos hk, if_pos hk, h k hk, sp_cnt_c h (k + 1)]
  · rw [if_neg hk, if_neg hk]
termination_by e - k
decreasing_by omega
theorem sp_tok_c {t u : Nat → Int32} {k : Nat} (h : t k = u k) : sp_tok t k = sp_tok u k := by rw [sp_tok, sp_tok, h]
theorem sp_row_c {t u : Nat → Int32} {e : Nat} (h : ∀ j, j < e → t j = u j) (k : Nat) : sp_row t e k = sp_row u e k := by
  rw [sp_row, sp_row]
  by_cases hk : k + 1 < e
  · rw [h k (by omega), h (k + 1) hk]
  · simp [hk]
theorem sp_row_lt {t : Nat → Int32} {e k : Nat} (h : sp_row t e k = true) : k + 1 < e := by
  rw [sp_row, decide_eq_true_eq] at h
  exact h.1
theorem sp_nx_c {t u : Nat → Int32} {e : Nat} (h : ∀ j, j < e → t j = u j) {a : Nat} (ha : a < e) : sp_nx t e a = sp_nx u e a := by
  rw [sp_nx, sp_nx, sp_tok_c (h a ha), sp_row_c h]
  by_cases hr : sp_row u e (sp_tok u a) = true
  · rw [if_pos hr, if_pos hr, sp_tok_c (h _ (sp_row_lt hr))]
  · rw [if_neg hr, if_neg hr]
theorem sp_se_c {t u : Nat → Int32} {e : Nat} (h : ∀ j, j < e → t j = u j) (a : Nat) (first : Bool) : sp_se t e a first = sp_se u e a first := by
  rw [sp_se.eq_1 t e a first, sp_se.eq_1 u e a first]
  by_cases ha : a < e
  · have := sp_nx_gt u e a
    rw [if_pos ha, if_pos ha, h a ha, sp_nx_c h ha, sp_se_c h (sp_nx u e a) false]
  · rw [if_neg ha, if_neg ha]
termination_by e - a
decreasing_by
  have := sp_nx_gt u e a
  omega
theorem sp_sf_c {t u : Nat → Int32} {e : Nat} (h : ∀ j, j < e → t j = u j) (k : Nat) : sp_sf t e k = sp_sf u e k := by
  rw [sp_sf, sp_sf]
  by_cases hk : k + 1 < e
  · rw [h (k + 1) hk]
  · simp [hk]
theorem sp_end_c {t u : Nat → Int32} {e : Nat} (h : ∀ j, j < e → t j = u j) {k : Nat} (hk : k < e) : sp_end t e k = sp_end u e k := by
  rw [sp_end, sp_end, h k hk, sp_sf_c h, sp_se_c h]
/-- a set that ends has its items within -/
theorem sp_se_in {t : Nat → Int32} {e a : Nat} {first : Bool} (h : sp_se t e a first ≤ e) : a < e ∧ ((first = true ∨ ¬ t a = 93) → sp_nx t e a < e ∧ sp_se t e (sp_nx t e a) false = sp_se t e a first) := by
  have ha : a < e := by
    by_cases ha : a < e
    · exact ha
    · rw [sp_se, if_neg ha] at h
      omega
  refine ⟨ha, fun hc => ?_⟩
  have e1 : sp_se t e (sp_nx t e a) false = sp_se t e a first := by rw [sp_se.eq_1 t e a first, if_pos ha, if_pos hc]
  refine ⟨?_, e1⟩
  by_cases hn : sp_nx t e a < e
  · exact hn
  · rw [sp_se, if_neg hn] at e1
    omega
theorem sp_byte_c {t u : Nat → Int32} {e : Nat} (h : ∀ j, j < e → t j = u j) {k : Nat} (hk : k < e) (h2 : sp_tok t k ≤ e) : sp_byte t k = sp_byte u k := by
  rw [sp_byte, sp_byte, h k hk]
  by_cases hb : u k = 92
  · rw [sp_tok, if_pos (by rw [h k hk]; exact hb)] at h2
    rw [if_pos hb, if_pos hb, h (k + 1) (by omega)]
  · rw [if_neg hb, if_neg hb]
theorem sp_tok_nx {t : Nat → Int32} {e a : Nat} : sp_tok t a ≤ sp_nx t e a := by
  have := sp_tok_gt t (sp_tok t a + 1)
  rw [sp_nx]
  split <;> omega
theorem sp_has_c {t u : Nat → Int32} {e : Nat} (h : ∀ j, j < e → t j = u j) (c : Int32) (a : Nat) (first : Bool) (hs : sp_se t e a first ≤ e) : sp_has t e c a first = sp_has u e c a first := by
  obtain ⟨ha, hn⟩ := sp_se_in hs
  rw [sp_has.eq_1 t e c a first, sp_has.eq_1 u e c a first, if_pos ha, if_pos ha, h a ha]
  by_cases hc : first = true ∨ ¬ u a = 93
  · obtain ⟨n1, n2⟩ := hn (by rw [h a ha]; exact hc)
    have hg := sp_nx_gt t e a
    have ht : sp_tok t a ≤ e := Nat.le_trans sp_tok_nx (Nat.le_of_lt n1)
    have e1 : sp_hi t e a = sp_hi u e a := by
      rw [sp_hi, sp_hi, ← sp_tok_c (h a ha), ← sp_row_c h, ← sp_byte_c h ha ht]
      by_cases hr : sp_row t e (sp_tok t a) = true
      · rw [if_pos hr, if_pos hr]
        refine sp_byte_c h (sp_row_lt hr) ?_
        have : sp_nx t e a = sp_tok t (sp_tok t a + 1) := by rw [sp_nx, if_pos hr]
        omega
      · rw [if_neg hr, if_neg hr]
    rw [if_pos hc, if_pos hc, sp_byte_c h ha ht, e1, ← sp_nx_c h ha, sp_has_c h c (sp_nx t e a) false (by rw [n2]; exact hs)]
  · rw [if_neg hc, if_neg hc]
termination_by e - a
decreasing_by omega
theorem sp_take_c {t u : Nat → Int32} {e : Nat} (h : ∀ j, j < e → t j = u j) {k : Nat} (hk : k < e) (he : sp_end t e k ≤ e) (c : Int32) : sp_take t e k c = sp_take u e k c := by
  rw [sp_take, sp_take, h k hk, ← sp_sf_c h]
  by_cases h1 : u k = 63
  · rw [if_pos h1, if_pos h1]
  · rw [if_neg h1, if_neg h1]
    by_cases h2 : u k = 91
    · rw [if_pos h2, if_pos h2, sp_has_c h]
      rw [sp_end, if_neg (by rw [h k hk, h2]; decide), if_pos (by rw [h k hk]; exact h2)] at he
      exact he
    · rw [if_neg h2, if_neg h2, sp_byte_c h hk]
      rw [sp_end] at he
      rw [sp_tok]
      split at he
      · rename_i h3
        rw [if_pos h3]
        exact he
      · rename_i h3
        rw [if_neg h3]
        omega
theorem sp_void_c {t u : Nat → Int32} {e : Nat} (h : ∀ j, j < e → t j = u j) (k : Nat) : sp_void t e k = sp_void u e k := by
  rw [sp_void.eq_1 t e k, sp_void.eq_1 u e k]
  by_cases hk : k < e
  · have hg := sp_end_gt (t := u) hk
    rw [dif_pos hk, dif_pos hk, sp_end_c h hk, sp_void_c h (sp_end u e k)]
  · rw [dif_neg hk, dif_neg hk]
termination_by e - k
decreasing_by omega
theorem ig_neg {b : Nat} (h : b < 2147483648) : ¬ nI b ≤ (-1 : Int32) := by
  intro h2
  have h3 : (0 : Int32) ≤ nI b := nI_pos' (by omega)
  exact absurd (Int32.le_trans h3 h2) (by decide)
end
section
/-! a set that ends at z, gone through with its end known -/
theorem sp_set1 {t : Nat → Int32} {e b z : Nat} {fl : Bool} (hs : sp_se t e b fl = z + 1) (hz : z + 1 ≤ e) : b ≤ z ∧ (b = z → ∀ c, sp_has t e c b fl = false) ∧ (b < z → (fl = true ∨ ¬ t b = 93) ∧ sp_se t e (sp_nx t e b) false = z + 1 ∧ sp_nx t e b ≤ z) := by
  obtain ⟨hb, hn⟩ := sp_se_in (t := t) (e := e) (a := b) (first := fl) (by omega)
  have hg := sp_se_gt (t := t) (e := e) (a := b) (first := fl) (by omega)
  refine ⟨by omega, fun hbz c => ?_, fun hbz => ?_⟩
  · rw [sp_has, if_pos hb]
    by_cases hc : fl = true ∨ ¬ t b = 93
    · obtain ⟨n1, n2⟩ := hn hc
      have h1 := sp_nx_gt t e b
      have h2 := sp_se_gt (t := t) (e := e) (a := sp_nx t e b) (first := false) (by omega)
      omega
    · rw [if_neg hc]
  · by_cases hc : fl = true ∨ ¬ t b = 93
    · obtain ⟨n1, n2⟩ := hn hc
      have h2 := sp_se_gt (t := t) (e := e) (a := sp_nx t e b) (first := false) (by omega)
      exact ⟨hc, by omega, by omega⟩
    · rw [sp_se, if_pos hb, if_neg hc] at hs
      omega
theorem sp_set2 {t : Nat → Int32} {e b z : Nat} {fl : Bool} (hs : sp_se t e b fl = z + 1) (hz : z + 1 ≤ e) (hb : b < z) : (sp_tok t b + 1 < z ∧ t (sp_tok t b) = 45) ↔ sp_row t e (sp_tok t b) = true := by
  obtain ⟨-, -, h3⟩ := sp_set1 hs hz
  obtain ⟨hc, hs2, hn⟩ := h3 hb
  constructor
  · rintro ⟨h1, h2⟩
    by_cases hr : sp_row t e (sp_tok t b) = true
    · exact hr
    · exfalso
      have e1 : sp_nx t e b = sp_tok t b := by rw [sp_nx, if_neg hr]
      rw [e1] at hs2
      obtain ⟨-, -, g3⟩ := sp_set1 hs2 hz
      obtain ⟨-, gs, -⟩ := g3 (by omega)
      have h93 : t (sp_tok t b + 1) = 93 := by
        by_cases h : t (sp_tok t b + 1) = 93
        · exact h
        · exact absurd (by rw [sp_row, decide_eq_true_eq]; exact ⟨by omega, h2, h⟩) hr
      have e2 : sp_tok t (sp_tok t b) = sp_tok t b + 1 := by rw [sp_tok, if_neg (by rw [h2]; decide)]
      have e3 : ¬ sp_row t e (sp_tok t b + 1) = true := by
        rw [sp_row, decide_eq_true_eq, h93]
        rintro ⟨-, q, -⟩
        exact absurd q (by decide)
      have e4 : sp_nx t e (sp_tok t b) = sp_tok t b + 1 := by rw [sp_nx, e2, if_neg e3]
      rw [e4, sp_se, if_pos (by omega), if_neg (by simp [h93])] at gs
      omega
  · intro hr
    have hr2 := hr
    rw [sp_row, decide_eq_true_eq] at hr2
    have e1 : sp_nx t e b = sp_tok t (sp_tok t b + 1) := by rw [sp_nx, if_pos hr]
    have h1 := sp_tok_gt t (sp_tok t b + 1)
    exact ⟨by omega, hr2.2.1⟩
theorem sp_has1 {t : Nat → Int32} {e b z : Nat} {fl : Bool} (c : Int32) (hs : sp_se t e b fl = z + 1) (hz : z + 1 ≤ e) (hb : b < z) : sp_has t e c b fl = (decide (sp_byte t b ≤ c ∧ c ≤ sp_hi t e b) || sp_has t e c (sp_nx t e b) false) := by
  obtain ⟨-, -, h3⟩ := sp_set1 hs hz
  obtain ⟨hc, -, -⟩ := h3 hb
  rw [sp_has.eq_1 t e c b fl, if_pos (by omega), if_pos hc]
theorem sp_eon_no {t : Nat → Int32} {e k : Nat} (hk : k < e) (h : ¬ t k = 47) : sp_eon t e k = sp_eon t e (k + 1) := by rw [sp_eon.eq_1 t e k, if_pos hk, if_neg h]
theorem sp_eon_at {t : Nat → Int32} {e k : Nat} (h : k = e ∨ t k = 47) : sp_eon t e k = k := by
  rw [sp_eon]
  split
  · rename_i hk
    rw [if_pos (h.resolve_left (by omega))]
  · rfl
theorem sp_cnt_no {t : Nat → Int32} {e k : Nat} (hk : k < e) (h : ¬ t k = 47) : sp_cnt t e k = sp_cnt t e (k + 1) := by rw [sp_cnt.eq_1 t e k, if_pos hk, if_neg h, Nat.zero_add]
theorem sp_cnt_at {t : Nat → Int32} {e k : Nat} (hk : k < e) (h : t k = 47) : sp_cnt t e k = 1 + sp_cnt t e (k + 1) := by rw [sp_cnt.eq_1 t e k, if_pos hk, if_pos h]
theorem sp_cnt_e {t : Nat → Int32} {e k : Nat} (hk : e ≤ k) : sp_cnt t e k = 0 := by rw [sp_cnt, if_neg (by omega)]
end
section
/-! a line, the lines of a tape, a path -/
def sp_a1 (t : Nat → Int32) (b : Nat) : Nat := if t b = 33 then b + 1 else b
def sp_dir (t : Nat → Int32) (b e : Nat) : Bool := decide (sp_a1 t b < e ∧ t (e - 1) = 47) && !sp_esc t (sp_a1 t b) (e - 1)
def sp_e1 (t : Nat → Int32) (b e : Nat) : Nat := if sp_dir t b e = true then e - 1 else e
def sp_bnd (t : Nat → Int32) (b e : Nat) : Bool := decide (sp_eon t (sp_e1 t b e) (sp_a1 t b) < sp_e1 t b e)
def sp_fr (t : Nat → Int32) (b e : Nat) : Nat := if sp_bnd t b e = true ∧ t (sp_a1 t b) = 47 then sp_a1 t b + 1 else sp_a1 t b
def sp_bits (t : Nat → Int32) (b e : Nat) : Nat := (if t b = 33 then 1 else 0) + (if sp_dir t b e = true then 2 else 0) + (if sp_bnd t b e = true then 4 else 0) + (if sp_hv t (sp_e1 t b e) (sp_fr t b e) = true then 8 else 0)
abbrev sp_R : Type := Nat × Nat × Nat × Nat
def sp_one (t : Nat → Int32) (b k no : Nat) : List sp_R := if sp_strip t b k = b ∨ t b = 35 then [] else [(sp_fr t b (sp_strip t b k), sp_e1 t b (sp_strip t b k), sp_bits t b (sp_strip t b k), no)]
/-- behind the first k bytes: where the line begins, its number, the rules so far -/
def sp_ld (t : Nat → Int32) (n : Nat) : Nat → Nat × Nat × List sp_R
  | 0 => (0, 0, [])
  | k + 1 => if k = n ∨ t k = 10 then (k + 1, (sp_ld t n k).2.1 + 1, (sp_ld t n k).2.2 ++ sp_one t (sp_ld t n k).1 k (sp_ld t n k).2.1) else sp_ld t n k
def sp_rules (t : Nat → Int32) (n : Nat) : List sp_R := (sp_ld t n (n + 1)).2.2
def sp_hold (xF xT xB xL : Nat → Nat) (l : List sp_R) : Prop := ∀ (i : Nat) (x : sp_R), l[i]? = some x → xF i = x.1 ∧ xT i = x.2.1 ∧ xB i = x.2.2.1 ∧ xL i = x.2.2.2
theorem sp_hold_0 {xF xT xB xL : Nat → Nat} : sp_hold xF xT xB xL [] := fun i x h => by simp at h
theorem sp_hold_add {xF xT xB xL : Nat → Nat} {l : List sp_R} {x : sp_R} {n : Nat} (hn : l.length = n) (h : sp_hold xF xT xB xL l) : sp_hold (updN xF n x.1) (updN xT n x.2.1) (updN xB n x.2.2.1) (updN xL n x.2.2.2) (l ++ [x]) := by
  intro i y hy
  by_cases hi : i < l.length
  · rw [List.getElem?_append_left hi] at hy
    rw [updN_n (by omega), updN_n (by omega), updN_n (by omega), updN_n (by omega)]
    exact h i y hy
  · rw [List.getElem?_append_right (by omega)] at hy
    have hz : i - l.length < 1 := (List.getElem?_eq_some_iff.mp hy).1
    have hin : i = n := by omega
    rw [show i - l.length = 0 by omega] at hy
    cases hy
    subst hin
    exact ⟨updN_s, updN_s, updN_s, updN_s⟩
theorem sp_ld_at {t : Nat → Int32} {n k : Nat} (h : k = n ∨ t k = 10) : sp_ld t n (k + 1) = (k + 1, (sp_ld t n k).2.1 + 1, (sp_ld t n k).2.2 ++ sp_one t (sp_ld t n k).1 k (sp_ld t n k).2.1) := by rw [sp_ld, if_pos h]
theorem sp_ld_no {t : Nat → Int32} {n k : Nat} (h : ¬ (k = n ∨ t k = 10)) : sp_ld t n (k + 1) = sp_ld t n k := by rw [sp_ld, if_neg h]
theorem sp_ld_b (t : Nat → Int32) (n : Nat) : ∀ k, (sp_ld t n k).1 ≤ k ∧ (sp_ld t n k).2.1 ≤ k
  | 0 => ⟨Nat.le_refl _, Nat.le_refl _⟩
  | k + 1 => by
    have := sp_ld_b t n k
    by_cases h : k = n ∨ t k = 10
    · rw [sp_ld_at h]
      exact ⟨Nat.le_refl _, Nat.succ_le_succ this.2⟩
    · rw [sp_ld_no h]
      exact ⟨Nat.le_succ_of_le this.1, Nat.le_succ_of_le this.2⟩
theorem sp_ld_mono {t : Nat → Int32} {n : Nat} : ∀ d k, (sp_ld t n k).2.2.length ≤ (sp_ld t n (k + d)).2.2.length
  | 0, k => Nat.le_refl _
  | d + 1, k => by
    refine Nat.le_trans (sp_ld_mono d k) ?_
    rw [show k + (d + 1) = k + d + 1 by omega]
    by_cases h : k + d = n ∨ t (k + d) = 10
    · rw [sp_ld_at h]
      simp
    · rw [sp_ld_no h]
      exact Nat.le_refl _
theorem sp_a1_le {t : Nat → Int32} {b e : Nat} (h : b < e) : b ≤ sp_a1 t b ∧ sp_a1 t b ≤ e := by rw [sp_a1]; split <;> omega
theorem sp_e1_le {t : Nat → Int32} {b e : Nat} (h : b < e) : sp_a1 t b ≤ sp_e1 t b e ∧ sp_e1 t b e ≤ e := by
  have := sp_a1_le (t := t) h
  rw [sp_e1]
  split
  · rename_i hd
    rw [sp_dir, Bool.and_eq_true, decide_eq_true_eq] at hd
    omega
  · omega
theorem sp_fr_le {t : Nat → Int32} {b e : Nat} (h : b < e) : sp_fr t b e ≤ sp_e1 t b e := by
  have := sp_e1_le (t := t) h
  have h2 := sp_eon_ge t (sp_e1 t b e) (sp_a1 t b)
  rw [sp_fr]
  split
  · rename_i hc
    rw [sp_bnd, decide_eq_true_eq] at hc
    omega
  · omega
/-- a path's bytes from k on, len bytes of a name gone -/
def sp_pk (t : Nat → Int32) (n k len : Nat) : Bool :=
  if h : k < n then (if t k = 10 ∨ (t k = 47 ∧ len = 0) then false else sp_pk t n (k + 1) (if t k = 47 then 0 else len + 1)) else decide (0 < len)
termination_by n - k
decreasing_by omega
def sp_pok (t : Nat → Int32) (n : Nat) : Bool := decide (1 ≤ n ∧ n ≤ 120) && (sp_pk t n 0 0 && decide (1 + sp_cnt t n 0 ≤ 20))
/-- a rule against the first n names of a path -/
def sp_rf (t : Nat → Int32) (s e bits : Nat) (pB : Nat → Int32) (pS : Nat → Nat) (n : Nat) (d : Bool) : Bool :=
  if bits &&& 8 = 8 ∨ (bits &&& 2 = 2 ∧ d = false) then false
  else if bits &&& 4 = 4 then sp_H t e n (fun k q j => sp_nf t pB pS k q j) s 0 else sp_nf t pB pS s e (n - 1)
theorem sp_bit8 : ∀ b, b < 16 → (b &&& 8 = 0 ∨ b &&& 8 = 8) := by decide
theorem sp_bit4 : ∀ b, b < 16 → (b &&& 4 = 0 ∨ b &&& 4 = 4) := by decide
theorem sp_bit2 : ∀ b, b < 16 → (b &&& 2 = 0 ∨ b &&& 2 = 2) := by decide
theorem sp_bit1 : ∀ b, b < 16 → (b &&& 1 = 0 ∨ b &&& 1 = 1) := by decide
/-- the names of a path of n bytes: where they begin; its bytes -/
def sp_path (t : Nat → Int32) (n c : Nat) (pS : Nat → Nat) (pB : Nat → Int32) : Prop := pS 0 = 0 ∧ (∀ j, j < c → pS j < sp_eon t n (pS j) ∧ pS (j + 1) = sp_eon t n (pS j) + 1) ∧ pS c = n + 1 ∧ 1 ≤ c ∧ c ≤ 20 ∧ n ≤ 120 ∧ ∀ k, k < n → ¬ t k = 47 → pB k = t k
theorem sp_or2 : ∀ x, x < 2 → x ||| 2 = x + 2 := by decide
theorem sp_or4 : ∀ x, x < 4 → x ||| 4 = x + 4 := by decide
theorem sp_or8 : ∀ x, x < 8 → x ||| 8 = x + 8 := by decide
end
section
/-! the last rule that fits, whether it leaves out, the first directory that is left out -/
def sp_lastf (G : Nat → Bool) : Nat → Int32
  | 0 => -1
  | k + 1 => if G k = true then nI k else sp_lastf G k
def sp_lfit (t : Nat → Int32) (xF xT xB : Nat → Nat) (pB : Nat → Int32) (pS : Nat → Nat) (c n : Nat) (d : Bool) : Int32 := sp_lastf (fun k => sp_rf t (xF k) (xT k) (xB k) pB pS n d) c
def sp_lo (xB : Nat → Nat) (x : Int32) : Bool := if x = -1 then false else decide (xB x.toNatClampNeg &&& 1 = 0)
def sp_dd (O : Nat → Bool) (c n : Nat) : Nat := if h : n < c then (if O n = true then n else sp_dd O c (n + 1)) else c
termination_by c - n
decreasing_by omega
def sp_rok (t : Nat → Int32) (xF xT xB : Nat → Nat) (c : Nat) : Prop := c ≤ 60 ∧ ∀ i, i < c → xF i ≤ xT i ∧ xT i ≤ 1000 ∧ xB i < 16 ∧ (xB i &&& 4 = 0 → sp_eon t (xT i) (xF i) = xT i)
def sp_pth (pS : Nat → Nat) (c : Nat) : Prop := c ≤ 20 ∧ (∀ j, j < c → pS j + 1 ≤ pS (j + 1)) ∧ pS c ≤ 121
theorem sp_pth_n {pS : Nat → Nat} {c n : Nat} (h : sp_pth pS c) (hn : n ≤ c) : pS n ≤ 121 := by
  obtain ⟨h1, h2, h3⟩ := h
  have : ∀ d n, c - n = d → n ≤ c → pS n ≤ 121 := by
    intro d
    induction d with
    | zero => intro n hd hn; rw [show n = c by omega]; exact h3
    | succ d ih =>
      intro n hd hn
      have g1 := ih (n + 1) (by omega) (by omega)
      have g2 := h2 n (by omega)
      omega
  exact this _ n rfl hn
theorem sp_lastf_in (G : Nat → Bool) : ∀ c, sp_lastf G c = -1 ∨ ∃ k, k < c ∧ sp_lastf G c = nI k
  | 0 => Or.inl rfl
  | c + 1 => by
    rw [sp_lastf]
    split
    · exact Or.inr ⟨c, Nat.lt_succ_self c, rfl⟩
    · rcases sp_lastf_in G c with h | ⟨k, h1, h2⟩
      · exact Or.inl h
      · exact Or.inr ⟨k, Nat.lt_succ_of_lt h1, h2⟩
theorem ig_m1 {k : Nat} (h : k < 2147483648) : ¬ nI k = (-1 : Int32) := fun q => ig_neg h (by rw [q]; exact Int32.le_refl _)
end
section
theorem sp_se_le {t : Nat → Int32} {e a : Nat} {first : Bool} : sp_se t e a first ≤ e + 1 := by
  rw [sp_se]
  split
  · split
    · have := sp_nx_gt t e a
      exact sp_se_le
    · omega
  · omega
termination_by e - a
decreasing_by omega
theorem sp_end_le {t : Nat → Int32} {e k : Nat} (hk : k < e) : sp_end t e k ≤ e + 1 := by
  rw [sp_end]
  split
  · omega
  · split
    · exact sp_se_le
    · omega
theorem sp_sort_le (t : Nat → Int32) (e k : Nat) : sp_sort t e k ≤ 4 := by
  rw [sp_sort]
  split
  · split <;> omega
  · split
    · split <;> omega
    · split
      · omega
      · split <;> omega
theorem sp_sort4 {t : Nat → Int32} {e k : Nat} (hk : k < e) : sp_sort t e k = 4 ↔ ¬ sp_end t e k ≤ e := by
  rw [sp_sort]
  by_cases h92 : t k = 92
  · rw [if_pos h92, sp_end, if_pos h92]
    split <;> omega
  · rw [if_neg h92]
    by_cases h91 : t k = 91
    · rw [if_pos h91]
      split <;> omega
    · rw [if_neg h91, sp_end, if_neg h92, if_neg h91]
      split
      · omega
      · split <;> omega
theorem sp_sort2 {t : Nat → Int32} {e k : Nat} : sp_sort t e k = 2 ↔ t k = 42 := by
  rw [sp_sort]
  by_cases h92 : t k = 92
  · rw [if_pos h92, h92]
    constructor
    · split <;> omega
    · intro h; exact absurd h (by decide)
  · rw [if_neg h92]
    by_cases h91 : t k = 91
    · rw [if_pos h91, h91]
      constructor
      · split <;> omega
      · intro h; exact absurd h (by decide)
    · rw [if_neg h91]
      by_cases h63 : t k = 63
      · rw [if_pos h63, h63]
        exact ⟨fun h => absurd h (by decide), fun h => absurd h (by decide)⟩
      · rw [if_neg h63]
        by_cases h42 : t k = 42
        · rw [if_pos h42]; exact ⟨fun _ => h42, fun _ => rfl⟩
        · rw [if_neg h42]; exact ⟨fun h => absurd h (by decide), fun h => absurd h h42⟩
theorem ig_am1 (x : Int32) : x - 1 - x = -1 := by
  rw [Int32.sub_eq_add_neg, Int32.sub_eq_add_neg, Int32.add_comm x (-1), Int32.add_assoc, ← Int32.sub_eq_add_neg x x, Int32.sub_self, Int32.add_zero]
end
section
def r_RL_isEscaped (tT : Nat → Int32) (f : Nat) (a : Nat) : Prop := f ≤ a ∧ a ≤ 1000
def p_RL_isEscaped (tT : Nat → Int32) (f : Nat) (a : Nat) (r : Bool) : Prop := r = (sp_esc tT f a)
def v_RL_isEscaped_26 (tT : Nat → Int32) (f : Nat) (a : Nat) (K2 : Nat → Prop) (Q : Bool → Prop) (b : Nat) : Prop := (b ≤ a) ∧ ((a - b < 2 ^ 31) ∧ (((a - b) % 2 < 2147483648) ∧ ((¬ (a - b) % 2 = 1 → Q false) ∧ ((a - b) % 2 = 1 → Q true))))
def v_RL_isEscaped_2 (tT : Nat → Int32) (f : Nat) (a : Nat) (K2 : Nat → Prop) (Q : Bool → Prop) (b : Nat) : Prop := (b < 2147483648) ∧ ((f < 2147483648) ∧ ((b ≤ f → v_RL_isEscaped_26 tT f a K2 Q b) ∧ (¬ b ≤ f → (1 ≤ b) ∧ ((b - 1 < 1000) ∧ ((¬ (tT (b - 1)) = 92 → v_RL_isEscaped_26 tT f a K2 Q b) ∧ ((tT (b - 1)) = 92 → (1 ≤ b) ∧ (K2 (b - 1))))))))
def v_RL_isEscaped (tT : Nat → Int32) (f : Nat) (a : Nat) (K2 : Nat → Prop) (Q : Bool → Prop) : Prop := K2 a
theorem t_RL_isEscaped (tT : Nat → Int32) (f : Nat) (a : Nat) (hr : r_RL_isEscaped tT f a) (K2 : Nat → Prop) (k2 : ∀ b, v_RL_isEscaped_2 tT f a K2 (p_RL_isEscaped tT f a) b → K2 b) : v_RL_isEscaped tT f a K2 (p_RL_isEscaped tT f a) := by
  obtain ⟨h1, h2⟩ := hr
  have key : ∀ b, f ≤ b → b ≤ a → (∀ j, b ≤ j → j < a → tT j = 92) → K2 b := by
    intro b
    induction b with
    | zero =>
      intro hb ha hin
      refine k2 0 ?_
      unfold v_RL_isEscaped_2
      refine ⟨by omega, by omega, fun _ => ?_, fun h => absurd (Nat.zero_le _) h⟩
      unfold v_RL_isEscaped_26
      have e := sp_run_at (t := tT) (b := f) (k := a) (q := 0) hb ha hin (Or.inl (Nat.zero_le _))
      refine ⟨by omega, by omega, by omega, fun h => ?_, fun h => ?_⟩ <;> simp [p_RL_isEscaped, sp_esc, e] <;> omega
    | succ b ih =>
      intro hb ha hin
      have out : (b + 1 ≤ f ∨ ¬ tT (b + 1 - 1) = 92) → v_RL_isEscaped_26 tT f a K2 (p_RL_isEscaped tT f a) (b + 1) := by
        intro hq
        unfold v_RL_isEscaped_26
        have e := sp_run_at (t := tT) (b := f) (k := a) (q := b + 1) hb ha hin hq
        refine ⟨by omega, by omega, by omega, fun h => ?_, fun h => ?_⟩ <;> simp [p_RL_isEscaped, sp_esc, e] <;> omega
      refine k2 (b + 1) ?_
      unfold v_RL_isEscaped_2
      refine ⟨by omega, by omega, fun h => out (Or.inl h), fun h => ⟨by omega, by omega, fun hn => out (Or.inr hn), fun ht => ⟨by omega, ?_⟩⟩⟩
      refine ih (by omega) (by omega) (fun j j1 j2 => ?_)
      by_cases hj : j = b
      · rw [hj]; exact ht
      · exact hin j (by omega) j2
  exact key a h1 (Nat.le_refl _) (fun j j1 j2 => absurd j2 (by omega))

def r_RL_withoutBlanks (tT : Nat → Int32) (f : Nat) (a : Nat) : Prop := f ≤ a ∧ a ≤ 1000
def p_RL_withoutBlanks (tT : Nat → Int32) (f : Nat) (a : Nat) (r : Nat) : Prop := r = (sp_strip tT f a)
def v_RL_withoutBlanks_2 (tT : Nat → Int32) (f : Nat) (a : Nat) (K2 : Nat → Prop) (Q : Nat → Prop) (b : Nat) : Prop := (b < 2147483648) ∧ ((f < 2147483648) ∧ ((b ≤ f → Q b) ∧ (¬ b ≤ f → (1 ≤ b) ∧ ((b - 1 < 1000) ∧ ((¬ (tT (b - 1)) = 32 → Q b) ∧ ((tT (b - 1)) = 32 → (1 ≤ b) ∧ ((r_RL_isEscaped tT f (b - 1)) ∧ ((sp_esc tT f (b - 1) = true → Q b) ∧ (sp_esc tT f (b - 1) = false → (1 ≤ b) ∧ (K2 (b - 1)))))))))))
def v_RL_withoutBlanks (tT : Nat → Int32) (f : Nat) (a : Nat) (K2 : Nat → Prop) (Q : Nat → Prop) : Prop := K2 a
theorem t_RL_withoutBlanks (tT : Nat → Int32) (f : Nat) (a : Nat) (hr : r_RL_withoutBlanks tT f a) (K2 : Nat → Prop) (k2 : ∀ b, v_RL_withoutBlanks_2 tT f a K2 (p_RL_withoutBlanks tT f a) b → K2 b) : v_RL_withoutBlanks tT f a K2 (p_RL_withoutBlanks tT f a) := by
  obtain ⟨h1, h2⟩ := hr
  have key : ∀ b, f ≤ b → b ≤ a → sp_strip tT f b = sp_strip tT f a → K2 b := by
    intro b
    induction b with
    | zero =>
      intro hb ha he
      refine k2 0 ?_
      unfold v_RL_withoutBlanks_2
      refine ⟨by omega, by omega, fun _ => ?_, fun h => absurd (Nat.zero_le _) h⟩
      simp [p_RL_withoutBlanks, ← he, sp_strip]
    | succ b ih =>
      intro hb ha he
      have stop : ¬ (f ≤ b ∧ tT b = 32 ∧ sp_esc tT f b = false) → p_RL_withoutBlanks tT f a (b + 1) := by
        intro hn
        rw [p_RL_withoutBlanks, ← he, sp_strip, if_neg hn]
      refine k2 (b + 1) ?_
      unfold v_RL_withoutBlanks_2
      simp only [Nat.add_sub_cancel]
      refine ⟨by omega, by omega, fun h => stop (by omega), fun h => ⟨by omega, by omega, fun hn => stop (fun q => hn q.2.1), fun ht => ⟨by omega, ⟨by omega, by omega⟩, fun h3 => stop (fun q => by rw [h3] at q; cases q.2.2), fun h3 => ⟨by omega, ?_⟩⟩⟩⟩
      refine ih (by omega) (by omega) ?_
      rw [← he, sp_strip, if_pos ⟨by omega, ht, h3⟩]
  exact key a h1 (Nat.le_refl _) rfl

def r_RL_endOfName (tT : Nat → Int32) (f : Nat) (a : Nat) : Prop := f ≤ a ∧ a ≤ 1000
def p_RL_endOfName (tT : Nat → Int32) (f : Nat) (a : Nat) (r : Nat) : Prop := r = (sp_eon tT a f)
def v_RL_endOfName_2 (tT : Nat → Int32) (f : Nat) (a : Nat) (K2 : Nat → Prop) (Q : Nat → Prop) (b : Nat) : Prop := (b < 2147483648) ∧ ((a < 2147483648) ∧ ((a ≤ b → Q a) ∧ (¬ a ≤ b → (b < 1000) ∧ ((¬ (tT b) = 47 → K2 (b + 1)) ∧ ((tT b) = 47 → Q b)))))
def v_RL_endOfName (tT : Nat → Int32) (f : Nat) (a : Nat) (K2 : Nat → Prop) (Q : Nat → Prop) : Prop := K2 f
theorem t_RL_endOfName (tT : Nat → Int32) (f : Nat) (a : Nat) (hr : r_RL_endOfName tT f a) (K2 : Nat → Prop) (k2 : ∀ b, v_RL_endOfName_2 tT f a K2 (p_RL_endOfName tT f a) b → K2 b) : v_RL_endOfName tT f a K2 (p_RL_endOfName tT f a) := by
  obtain ⟨h1, h2⟩ := hr
  have key : ∀ d b, a - b = d → f ≤ b → b ≤ a → sp_eon tT a b = sp_eon tT a f → K2 b := by
    intro d
    induction d with
    | zero =>
      intro b hd hb ha he
      refine k2 b ?_
      unfold v_RL_endOfName_2
      refine ⟨by omega, by omega, fun _ => ?_, fun h => by omega⟩
      rw [p_RL_endOfName, ← he, sp_eon, if_neg (by omega)]
      omega
    | succ d ih =>
      intro b hd hb ha he
      refine k2 b ?_
      unfold v_RL_endOfName_2
      refine ⟨by omega, by omega, fun h => by omega, fun h => ⟨by omega, fun hn => ?_, fun ht => ?_⟩⟩
      · refine ih (b + 1) (by omega) (by omega) (by omega) ?_
        rw [← he, sp_eon.eq_1 tT a b, if_pos (by omega), if_neg hn]
      · rw [p_RL_endOfName, ← he, sp_eon, if_pos (by omega), if_pos ht]
  exact key (a - f) f rfl (Nat.le_refl _) h1 rfl
end
section
theorem kw_0_2 : Cond.initialized "IgnoreRules$RuleList" ∈ ig_T := ig_T_mem (List.mem_append_left _ (List.mem_of_getElem? (i := 2) rfl)) rfl
theorem kw_0_27 : Cond.fieldLink "IgnoreRules$RuleList" 9 "IgnoreRules$RuleList" "text" "[C" ∈ ig_T := ig_T_mem (List.mem_append_left _ (List.mem_of_getElem? (i := 27) rfl)) rfl
theorem kw_0_124 : Cond.methodLink "IgnoreRules$RuleList" 40 y_RL_isEscaped ∈ ig_T := ig_T_mem (List.mem_append_left _ (List.mem_of_getElem? (i := 124) rfl)) rfl
theorem kw_0_126 : Cond.instanceMethod y_RL_isEscaped ∈ ig_T := ig_T_mem (List.mem_append_left _ (List.mem_of_getElem? (i := 126) rfl)) rfl
theorem d_RL_isEscaped_0 : decode b_RL_isEscaped 0 = .ok (.iload_n 2, 1) := by decide +kernel
theorem d_RL_isEscaped_1 : decode b_RL_isEscaped 1 = .ok (.istore_n 3, 1) := by decide +kernel
theorem d_RL_isEscaped_2 : decode b_RL_isEscaped 2 = .ok (.iload_n 3, 1) := by decide +kernel
theorem d_RL_isEscaped_3 : decode b_RL_isEscaped 3 = .ok (.iload_n 1, 1) := by decide +kernel
theorem d_RL_isEscaped_4 : decode b_RL_isEscaped 4 = .ok (.if_icmp .le 22, 3) := by decide +kernel
theorem d_RL_isEscaped_7 : decode b_RL_isEscaped 7 = .ok (.aload_n 0, 1) := by decide +kernel
theorem d_RL_isEscaped_8 : decode b_RL_isEscaped 8 = .ok (.getfield 9, 3) := by decide +kernel
theorem d_RL_isEscaped_11 : decode b_RL_isEscaped 11 = .ok (.iload_n 3, 1) := by decide +kernel
theorem d_RL_isEscaped_12 : decode b_RL_isEscaped 12 = .ok (.iconst 1, 1) := by decide +kernel
theorem d_RL_isEscaped_13 : decode b_RL_isEscaped 13 = .ok (.isub, 1) := by decide +kernel
theorem d_RL_isEscaped_14 : decode b_RL_isEscaped 14 = .ok (.caload, 1) := by decide +kernel
theorem d_RL_isEscaped_15 : decode b_RL_isEscaped 15 = .ok (.bipush 92, 2) := by decide +kernel
theorem d_RL_isEscaped_17 : decode b_RL_isEscaped 17 = .ok (.if_icmp .ne 9, 3) := by decide +kernel
theorem d_RL_isEscaped_20 : decode b_RL_isEscaped 20 = .ok (.iinc 3 (-1), 3) := by decide +kernel
theorem d_RL_isEscaped_23 : decode b_RL_isEscaped 23 = .ok (.goto (-21), 3) := by decide +kernel
theorem d_RL_isEscaped_26 : decode b_RL_isEscaped 26 = .ok (.iload_n 2, 1) := by decide +kernel
theorem d_RL_isEscaped_27 : decode b_RL_isEscaped 27 = .ok (.iload_n 3, 1) := by decide +kernel
theorem d_RL_isEscaped_28 : decode b_RL_isEscaped 28 = .ok (.isub, 1) := by decide +kernel
theorem d_RL_isEscaped_29 : decode b_RL_isEscaped 29 = .ok (.iconst 2, 1) := by decide +kernel
theorem d_RL_isEscaped_30 : decode b_RL_isEscaped 30 = .ok (.irem, 1) := by decide +kernel
theorem d_RL_isEscaped_31 : decode b_RL_isEscaped 31 = .ok (.iconst 1, 1) := by decide +kernel
theorem d_RL_isEscaped_32 : decode b_RL_isEscaped 32 = .ok (.if_icmp .ne 7, 3) := by decide +kernel
theorem d_RL_isEscaped_35 : decode b_RL_isEscaped 35 = .ok (.iconst 1, 1) := by decide +kernel
theorem d_RL_isEscaped_36 : decode b_RL_isEscaped 36 = .ok (.goto 4, 3) := by decide +kernel
theorem d_RL_isEscaped_39 : decode b_RL_isEscaped 39 = .ok (.iconst 0, 1) := by decide +kernel
theorem d_RL_isEscaped_40 : decode b_RL_isEscaped 40 = .ok (.ireturn, 1) := by decide +kernel
abbrev w_RL_isEscaped : List Cond := Cond.code y_RL_isEscaped b_RL_isEscaped 4 (some .boolean) :: ig_T
theorem g_RL_isEscaped : GoodIn ig_T w_RL_isEscaped := ig_T_good (ig_T_mem (List.mem_append_left _ (List.mem_of_getElem? (i := 127) rfl)) rfl)
set_option maxHeartbeats 4000000 in
set_option maxRecDepth 100000 in
theorem c_RL_isEscaped (l : Launch) (dC : Nat → ClassId) (dI : Nat → Nat → Nat) (cC cI cZ cL : ClassId) (q0 qt qs qe qb ql : Nat) (nC : Int32) (tT : Nat → Int32) (f : Nat) (a : Nat) (sz : Nat) (hr : r_RL_isEscaped tT f a) : Met l y_RL_isEscaped w_RL_isEscaped ({ frames := 0, cells := 0, slots := 0, locals := 0 }) (ig_Pc (dC, dI) ig_cl0 [(cC, .char), (cI, .int), (cZ, .boolean), (cL, .long)] [.ref q0, .int (nI f), .int (nI a)] [(q0, .inr (ciRL, [.ref qt, .ref qs, .ref qe, .ref qb, .ref ql, .int nC])), (qt, .inl (cC, 1000, .inl tT))] sz) (va_Qi (fun (r : Int32) (u : Unit) => ∃ zr : Bool, r = bI zr ∧ p_RL_isEscaped tT f a zr ) (fun u t => va_P (dC, dI) ig_cl0 ((fun (u : Unit) => [(q0, .inr (ciRL, [.ref qt, .ref qs, .ref qe, .ref qb, .ref ql, .int nC])), (qt, .inl (cC, 1000, .inl tT))]) u) t.heap ∧ va_D (va_A [(q0, .inr (ciRL, [.ref qt, .ref qs, .ref qe, .ref qb, .ref ql, .int nC])), (qt, .inl (cC, 1000, .inl tT))] sz) ((fun (u : Unit) => [(q0, .inr (ciRL, [.ref qt, .ref qs, .ref qe, .ref qb, .ref ql, .int nC])), (qt, .inl (cC, 1000, .inl tT))]) u)) (va_A [(q0, .inr (ciRL, [.ref qt, .ref qs, .ref qe, .ref qb, .ref ql, .int nC])), (qt, .inl (cC, 1000, .inl tT))] sz)) 0 0 (va_A [(q0, .inr (ciRL, [.ref qt, .ref qs, .ref qe, .ref qb, .ref ql, .int nC])), (qt, .inl (cC, 1000, .inl tT))] sz) := by
  refine ig_metI (fun (r : Int32) (u : Unit) => ∃ zr : Bool, r = bI zr ∧ p_RL_isEscaped tT f a zr ) (fun (u : Unit) => [(q0, .inr (ciRL, [.ref qt, .ref qs, .ref qe, .ref qb, .ref ql, .int nC])), (qt, .inl (cC, 1000, .inl tT))]) (by decide) rfl (Nat.le_of_ble_eq_true rfl) rfl (by rintro r u ⟨b, rfl, -⟩; exact bI_ret b) ?_
  intro zp ze zs zm zargs zbelow zmeth zc zA zQ hx hb hml hown hts hK hN hA hret
  obtain ⟨K2, hK2⟩ : ∃ K : Nat → Prop, K = fun (b : Nat) => ig_W zp l ze ({ frames := 0, cells := 0, slots := 0, locals := 0 }) zs zm zargs zbelow zmeth zc (dC, dI) ig_cl0 zA zs.heap 4 0 0 zQ 2 [(0, .ref q0), (1, .int (nI f)), (2, .int (nI a)), (3, .int (nI b))] [] [(q0, .inr (ciRL, [.ref qt, .ref qs, .ref qe, .ref qb, .ref ql, .int nC])), (qt, .inl (cC, 1000, .inl tT))] := ⟨_, rfl⟩
  have j26 : ∀ (b : Nat), v_RL_isEscaped_26 tT f a K2 (p_RL_isEscaped tT f a) b → ig_W zp l ze ({ frames := 0, cells := 0, slots := 0, locals := 0 }) zs zm zargs zbelow zmeth zc (dC, dI) ig_cl0 zA zs.heap 4 0 0 zQ 26 [(2, .int (nI a)), (3, .int (nI b))] [] [(q0, .inr (ciRL, [.ref qt, .ref qs, .ref qe, .ref qb, .ref ql, .int nC])), (qt, .inl (cC, 1000, .inl tT))] := by
    intro b hv
    unfold v_RL_isEscaped_26 at hv
    refine ig_iload_n hx hb 0 d_RL_isEscaped_26 rfl rfl ?_
    refine ig_iload_n hx hb 1 d_RL_isEscaped_27 rfl rfl ?_
    obtain ⟨hc, hv⟩ := hv
    refine ig_isubN hx hb a b rfl rfl hc d_RL_isEscaped_28 ?_
    refine ig_iconst (v := 2) hx hb d_RL_isEscaped_29 (by decide) ?_
    obtain ⟨hc, hv⟩ := hv
    refine ig_iremN hx hb (a - b) 2 rfl rfl hc (by decide) (by decide) d_RL_isEscaped_30 ?_
    refine ig_iconst (v := 1) hx hb d_RL_isEscaped_31 (by decide) ?_
    obtain ⟨h1, hv⟩ := hv
    refine ig_icmp_neN (tgt := 39) hx hb ((a - b) % 2) 1 rfl rfl d_RL_isEscaped_32 (by decide) h1 (by decide) (fun h => ?_) (fun h => ?_)
    · have hv := hv.1 h
      refine ig_iconst (v := 0) hx hb d_RL_isEscaped_39 (by decide) ?_
      exact hret 40 _ 0 () d_RL_isEscaped_40 ⟨false, rfl, hv⟩
    · have hv := hv.2 h
      refine ig_iconst (v := 1) hx hb d_RL_isEscaped_35 (by decide) ?_
      refine ig_goto (tgt := 40) hx hb d_RL_isEscaped_36 (by decide) ?_
      exact hret 40 _ 1 () d_RL_isEscaped_40 ⟨true, rfl, hv⟩
  have k2 : ∀ (b : Nat), v_RL_isEscaped_2 tT f a K2 (p_RL_isEscaped tT f a) b → K2 b := by
    intro b hv
    unfold v_RL_isEscaped_2 at hv
    rw [hK2]
    show ig_W zp l ze ({ frames := 0, cells := 0, slots := 0, locals := 0 }) zs zm zargs zbelow zmeth zc (dC, dI) ig_cl0 zA zs.heap 4 0 0 zQ 2 [(0, .ref q0), (1, .int (nI f)), (2, .int (nI a)), (3, .int (nI b))] [] [(q0, .inr (ciRL, [.ref qt, .ref qs, .ref qe, .ref qb, .ref ql, .int nC])), (qt, .inl (cC, 1000, .inl tT))]
    refine ig_iload_n hx hb 3 d_RL_isEscaped_2 rfl rfl ?_
    refine ig_iload_n hx hb 1 d_RL_isEscaped_3 rfl rfl ?_
    obtain ⟨h1, hv⟩ := hv
    obtain ⟨h2, hv⟩ := hv
    refine ig_icmp_leN (tgt := 26) hx hb b f rfl rfl d_RL_isEscaped_4 (by decide) h1 h2 (fun h => ?_) (fun h => ?_)
    · have hv := hv.1 h
      refine ig_lv (lv' := [(2, .int (nI a)), (3, .int (nI b))]) [2, 3] rfl ?_
      exact j26 _ hv
    · have hv := hv.2 h
      refine ig_aload_n hx hb 0 d_RL_isEscaped_7 rfl rfl ?_
      refine ig_get hx hb hts in_RL hown hK 0 rfl rfl 0 (by decide) (hts _ kw_0_27) (fun _ h => h) rfl d_RL_isEscaped_8 ?_
      refine ig_iload_n hx hb 3 d_RL_isEscaped_11 rfl rfl ?_
      refine ig_iconst (v := 1) hx hb d_RL_isEscaped_12 (by decide) ?_
      obtain ⟨hc, hv⟩ := hv
      refine ig_isubN hx hb b 1 rfl rfl hc d_RL_isEscaped_13 ?_
      obtain ⟨hc, hv⟩ := hv
      refine ig_cald (x := (tT (b - 1))) hx hb hK 1 0 rfl rfl (b - 1) rfl hc (by decide) rfl d_RL_isEscaped_14 ?_
      refine ig_bipush (v := 92) hx hb d_RL_isEscaped_15 (by decide) ?_
      refine ig_icmp_ne (tgt := 26) hx hb d_RL_isEscaped_17 (by decide) (fun h => ?_) (fun h => ?_)
      · have hv := hv.1 h
        refine ig_lv (lv' := [(2, .int (nI a)), (3, .int (nI b))]) [2, 3] rfl ?_
        exact j26 _ hv
      · have hv := hv.2 h
        obtain ⟨hc, hv⟩ := hv
        refine ig_iinc (v := (nI (b - 1))) (lv' := [(3, .int (nI (b - 1))), (0, .ref q0), (1, .int (nI f)), (2, .int (nI a))]) hx hb 3 d_RL_isEscaped_20 rfl (ig_dec 1 hc (by decide)) (by decide) rfl ?_
        refine ig_goto (tgt := 2) hx hb d_RL_isEscaped_23 (by decide) ?_
        refine ig_lv (lv' := [(0, .ref q0), (1, .int (nI f)), (2, .int (nI a)), (3, .int (nI (b - 1)))]) [1, 2, 3, 0] rfl ?_
        rw [hK2] at hv
        exact hv
  have hv := t_RL_isEscaped tT f a hr K2 k2
  unfold v_RL_isEscaped at hv
  refine ig_iload_n hx hb 2 d_RL_isEscaped_0 rfl rfl ?_
  refine ig_istore_n (lv' := [(3, .int (nI a)), (0, .ref q0), (1, .int (nI f)), (2, .int (nI a))]) hx hb d_RL_isEscaped_1 rfl (by decide) rfl ?_
  refine ig_lv (lv' := [(0, .ref q0), (1, .int (nI f)), (2, .int (nI a)), (3, .int (nI a))]) [1, 2, 3, 0] rfl ?_
  rw [hK2] at hv
  exact hv
theorem d_RL_withoutBlanks_0 : decode b_RL_withoutBlanks 0 = .ok (.iload_n 2, 1) := by decide +kernel
theorem d_RL_withoutBlanks_1 : decode b_RL_withoutBlanks 1 = .ok (.istore_n 3, 1) := by decide +kernel
theorem d_RL_withoutBlanks_2 : decode b_RL_withoutBlanks 2 = .ok (.iload_n 3, 1) := by decide +kernel
theorem d_RL_withoutBlanks_3 : decode b_RL_withoutBlanks 3 = .ok (.iload_n 1, 1) := by decide +kernel
theorem d_RL_withoutBlanks_4 : decode b_RL_withoutBlanks 4 = .ok (.if_icmp .le 33, 3) := by decide +kernel
theorem d_RL_withoutBlanks_7 : decode b_RL_withoutBlanks 7 = .ok (.aload_n 0, 1) := by decide +kernel
theorem d_RL_withoutBlanks_8 : decode b_RL_withoutBlanks 8 = .ok (.getfield 9, 3) := by decide +kernel
theorem d_RL_withoutBlanks_11 : decode b_RL_withoutBlanks 11 = .ok (.iload_n 3, 1) := by decide +kernel
theorem d_RL_withoutBlanks_12 : decode b_RL_withoutBlanks 12 = .ok (.iconst 1, 1) := by decide +kernel
theorem d_RL_withoutBlanks_13 : decode b_RL_withoutBlanks 13 = .ok (.isub, 1) := by decide +kernel
theorem d_RL_withoutBlanks_14 : decode b_RL_withoutBlanks 14 = .ok (.caload, 1) := by decide +kernel
theorem d_RL_withoutBlanks_15 : decode b_RL_withoutBlanks 15 = .ok (.bipush 32, 2) := by decide +kernel
theorem d_RL_withoutBlanks_17 : decode b_RL_withoutBlanks 17 = .ok (.if_icmp .ne 20, 3) := by decide +kernel
theorem d_RL_withoutBlanks_20 : decode b_RL_withoutBlanks 20 = .ok (.aload_n 0, 1) := by decide +kernel
theorem d_RL_withoutBlanks_21 : decode b_RL_withoutBlanks 21 = .ok (.iload_n 1, 1) := by decide +kernel
theorem d_RL_withoutBlanks_22 : decode b_RL_withoutBlanks 22 = .ok (.iload_n 3, 1) := by decide +kernel
theorem d_RL_withoutBlanks_23 : decode b_RL_withoutBlanks 23 = .ok (.iconst 1, 1) := by decide +kernel
theorem d_RL_withoutBlanks_24 : decode b_RL_withoutBlanks 24 = .ok (.isub, 1) := by decide +kernel
theorem d_RL_withoutBlanks_25 : decode b_RL_withoutBlanks 25 = .ok (.invokevirtual 40, 3) := by decide +kernel
theorem d_RL_withoutBlanks_28 : decode b_RL_withoutBlanks 28 = .ok (.ifCond .ne 9, 3) := by decide +kernel
theorem d_RL_withoutBlanks_31 : decode b_RL_withoutBlanks 31 = .ok (.iinc 3 (-1), 3) := by decide +kernel
theorem d_RL_withoutBlanks_34 : decode b_RL_withoutBlanks 34 = .ok (.goto (-32), 3) := by decide +kernel
theorem d_RL_withoutBlanks_37 : decode b_RL_withoutBlanks 37 = .ok (.iload_n 3, 1) := by decide +kernel
theorem d_RL_withoutBlanks_38 : decode b_RL_withoutBlanks 38 = .ok (.ireturn, 1) := by decide +kernel
abbrev w_RL_withoutBlanks : List Cond := Cond.code y_RL_withoutBlanks b_RL_withoutBlanks 4 (some .int) :: ig_T
theorem g_RL_withoutBlanks : GoodIn ig_T w_RL_withoutBlanks := ig_T_good (ig_T_mem (List.mem_append_left _ (List.mem_of_getElem? (i := 123) rfl)) rfl)
set_option maxHeartbeats 4000000 in
set_option maxRecDepth 100000 in
theorem c_RL_withoutBlanks (l : Launch) (dC : Nat → ClassId) (dI : Nat → Nat → Nat) (cC cI cZ cL : ClassId) (q0 qt qs qe qb ql : Nat) (nC : Int32) (tT : Nat → Int32) (f : Nat) (a : Nat) (sz : Nat) (hr : r_RL_withoutBlanks tT f a) : Met l y_RL_withoutBlanks w_RL_withoutBlanks ({ frames := 1, cells := 0, slots := 0, locals := 23 }) (ig_Pc (dC, dI) ig_cl0 [(cC, .char), (cI, .int), (cZ, .boolean), (cL, .long)] [.ref q0, .int (nI f), .int (nI a)] [(q0, .inr (ciRL, [.ref qt, .ref qs, .ref qe, .ref qb, .ref ql, .int nC])), (qt, .inl (cC, 1000, .inl tT))] sz) (va_Qi (fun (r : Int32) (u : Unit) => ∃ zr : Nat, r = nI zr ∧ p_RL_withoutBlanks tT f a zr ) (fun u t => va_P (dC, dI) ig_cl0 ((fun (u : Unit) => [(q0, .inr (ciRL, [.ref qt, .ref qs, .ref qe, .ref qb, .ref ql, .int nC])), (qt, .inl (cC, 1000, .inl tT))]) u) t.heap ∧ va_D (va_A [(q0, .inr (ciRL, [.ref qt, .ref qs, .ref qe, .ref qb, .ref ql, .int nC])), (qt, .inl (cC, 1000, .inl tT))] sz) ((fun (u : Unit) => [(q0, .inr (ciRL, [.ref qt, .ref qs, .ref qe, .ref qb, .ref ql, .int nC])), (qt, .inl (cC, 1000, .inl tT))]) u)) (va_A [(q0, .inr (ciRL, [.ref qt, .ref qs, .ref qe, .ref qb, .ref ql, .int nC])), (qt, .inl (cC, 1000, .inl tT))] sz)) 0 0 (va_A [(q0, .inr (ciRL, [.ref qt, .ref qs, .ref qe, .ref qb, .ref ql, .int nC])), (qt, .inl (cC, 1000, .inl tT))] sz) := by
  refine ig_metI (fun (r : Int32) (u : Unit) => ∃ zr : Nat, r = nI zr ∧ p_RL_withoutBlanks tT f a zr ) (fun (u : Unit) => [(q0, .inr (ciRL, [.ref qt, .ref qs, .ref qe, .ref qb, .ref ql, .int nC])), (qt, .inl (cC, 1000, .inl tT))]) (by decide) rfl (Nat.le_of_ble_eq_true rfl) rfl (fun _ _ _ => rfl) ?_
  intro zp ze zs zm zargs zbelow zmeth zc zA zQ hx hb hml hown hts hK hN hA hret
  obtain ⟨K2, hK2⟩ : ∃ K : Nat → Prop, K = fun (b : Nat) => ig_W zp l ze ({ frames := 1, cells := 0, slots := 0, locals := 23 }) zs zm zargs zbelow zmeth zc (dC, dI) ig_cl0 zA zs.heap 4 0 0 zQ 2 [(0, .ref q0), (1, .int (nI f)), (3, .int (nI b))] [] [(q0, .inr (ciRL, [.ref qt, .ref qs, .ref qe, .ref qb, .ref ql, .int nC])), (qt, .inl (cC, 1000, .inl tT))] := ⟨_, rfl⟩
  have k2 : ∀ (b : Nat), v_RL_withoutBlanks_2 tT f a K2 (p_RL_withoutBlanks tT f a) b → K2 b := by
    intro b hv
    unfold v_RL_withoutBlanks_2 at hv
    rw [hK2]
    show ig_W zp l ze ({ frames := 1, cells := 0, slots := 0, locals := 23 }) zs zm zargs zbelow zmeth zc (dC, dI) ig_cl0 zA zs.heap 4 0 0 zQ 2 [(0, .ref q0), (1, .int (nI f)), (3, .int (nI b))] [] [(q0, .inr (ciRL, [.ref qt, .ref qs, .ref qe, .ref qb, .ref ql, .int nC])), (qt, .inl (cC, 1000, .inl tT))]
    refine ig_iload_n hx hb 2 d_RL_withoutBlanks_2 rfl rfl ?_
    refine ig_iload_n hx hb 1 d_RL_withoutBlanks_3 rfl rfl ?_
    obtain ⟨h1, hv⟩ := hv
    obtain ⟨h2, hv⟩ := hv
    refine ig_icmp_leN (tgt := 37) hx hb b f rfl rfl d_RL_withoutBlanks_4 (by decide) h1 h2 (fun h => ?_) (fun h => ?_)
    · have hv := hv.1 h
      refine ig_iload_n hx hb 2 d_RL_withoutBlanks_37 rfl rfl ?_
      exact hret 38 _ (nI b) () d_RL_withoutBlanks_38 ⟨b, rfl, hv⟩
    · have hv := hv.2 h
      refine ig_aload_n hx hb 0 d_RL_withoutBlanks_7 rfl rfl ?_
      refine ig_get hx hb hts in_RL hown hK 0 rfl rfl 0 (by decide) (hts _ kw_0_27) (fun _ h => h) rfl d_RL_withoutBlanks_8 ?_
      refine ig_iload_n hx hb 2 d_RL_withoutBlanks_11 rfl rfl ?_
      refine ig_iconst (v := 1) hx hb d_RL_withoutBlanks_12 (by decide) ?_
      obtain ⟨hc, hv⟩ := hv
      refine ig_isubN hx hb b 1 rfl rfl hc d_RL_withoutBlanks_13 ?_
      obtain ⟨hc, hv⟩ := hv
      refine ig_cald (x := (tT (b - 1))) hx hb hK 1 0 rfl rfl (b - 1) rfl hc (by decide) rfl d_RL_withoutBlanks_14 ?_
      refine ig_bipush (v := 32) hx hb d_RL_withoutBlanks_15 (by decide) ?_
      refine ig_icmp_ne (tgt := 37) hx hb d_RL_withoutBlanks_17 (by decide) (fun h => ?_) (fun h => ?_)
      · have hv := hv.1 h
        refine ig_iload_n hx hb 2 d_RL_withoutBlanks_37 rfl rfl ?_
        exact hret 38 _ (nI b) () d_RL_withoutBlanks_38 ⟨b, rfl, hv⟩
      · have hv := hv.2 h
        refine ig_aload_n hx hb 0 d_RL_withoutBlanks_20 rfl rfl ?_
        refine ig_iload_n hx hb 1 d_RL_withoutBlanks_21 rfl rfl ?_
        refine ig_iload_n hx hb 2 d_RL_withoutBlanks_22 rfl rfl ?_
        refine ig_iconst (v := 1) hx hb d_RL_withoutBlanks_23 (by decide) ?_
        obtain ⟨hc, hv⟩ := hv
        refine ig_isubN hx hb b 1 rfl rfl hc d_RL_withoutBlanks_24 ?_
        obtain ⟨hc, hv⟩ := hv
        refine ig_cVi (As := [.int (nI f), .int (nI (b - 1))]) (rest := []) (wr := []) (ws' := fun u => [(q0, .inr (ciRL, [.ref qt, .ref qs, .ref qe, .ref qb, .ref ql, .int nC])), (qt, .inl (cC, 1000, .inl tT))]) hx hb hml hown hts hK hN hA (fun sz => c_RL_isEscaped l dC dI cC cI cZ cL q0 qt qs qe qb ql nC tT f (b - 1) sz hc) ⟨callB_of 2 hts g_RL_isEscaped rfl rfl rfl (hts _ kw_0_2) (hts _ kw_0_124) (by decide +kernel) (by decide), (hts _ kw_0_126), (hts _ ks_RL_isEscaped)⟩ rfl rfl (Nat.le_of_ble_eq_true rfl) d_RL_withoutBlanks_25 (by decide) 0 rfl rfl [0, 1] [] [0, 1] rfl rfl (by decide) (by decide) (by decide) (fun _ => rfl) (fun _ => rfl) (fun r u hr => ?_)
        obtain ⟨rr, rfl, hr⟩ := hr
        unfold p_RL_isEscaped at hr
        subst hr
        refine ig_if_neB (tgt := 37) hx hb (sp_esc tT f (b - 1)) rfl d_RL_withoutBlanks_28 (by decide) (fun h => ?_) (fun h => ?_)
        · have hv := hv.1 h
          refine ig_iload_n hx hb 2 d_RL_withoutBlanks_37 rfl rfl ?_
          exact hret 38 _ (nI b) () d_RL_withoutBlanks_38 ⟨b, rfl, hv⟩
        · have hv := hv.2 h
          obtain ⟨hc, hv⟩ := hv
          refine ig_iinc (v := (nI (b - 1))) (lv' := [(3, .int (nI (b - 1))), (0, .ref q0), (1, .int (nI f))]) hx hb 2 d_RL_withoutBlanks_31 rfl (ig_dec 1 hc (by decide)) (by decide) rfl ?_
          refine ig_goto (tgt := 2) hx hb d_RL_withoutBlanks_34 (by decide) ?_
          refine ig_lv (lv' := [(0, .ref q0), (1, .int (nI f)), (3, .int (nI (b - 1)))]) [1, 2, 0] rfl ?_
          rw [hK2] at hv
          exact hv
  have hv := t_RL_withoutBlanks tT f a hr K2 k2
  unfold v_RL_withoutBlanks at hv
  refine ig_iload_n hx hb 2 d_RL_withoutBlanks_0 rfl rfl ?_
  refine ig_istore_n (lv' := [(3, .int (nI a)), (0, .ref q0), (1, .int (nI f)), (2, .int (nI a))]) hx hb d_RL_withoutBlanks_1 rfl (by decide) rfl ?_
  refine ig_lv (lv' := [(0, .ref q0), (1, .int (nI f)), (3, .int (nI a))]) [1, 2, 0] rfl ?_
  rw [hK2] at hv
  exact hv
theorem d_RL_endOfName_0 : decode b_RL_endOfName 0 = .ok (.iload_n 1, 1) := by decide +kernel
theorem d_RL_endOfName_1 : decode b_RL_endOfName 1 = .ok (.istore_n 3, 1) := by decide +kernel
theorem d_RL_endOfName_2 : decode b_RL_endOfName 2 = .ok (.iload_n 3, 1) := by decide +kernel
theorem d_RL_endOfName_3 : decode b_RL_endOfName 3 = .ok (.iload_n 2, 1) := by decide +kernel
theorem d_RL_endOfName_4 : decode b_RL_endOfName 4 = .ok (.if_icmp .ge 22, 3) := by decide +kernel
theorem d_RL_endOfName_7 : decode b_RL_endOfName 7 = .ok (.aload_n 0, 1) := by decide +kernel
theorem d_RL_endOfName_8 : decode b_RL_endOfName 8 = .ok (.getfield 9, 3) := by decide +kernel
theorem d_RL_endOfName_11 : decode b_RL_endOfName 11 = .ok (.iload_n 3, 1) := by decide +kernel
theorem d_RL_endOfName_12 : decode b_RL_endOfName 12 = .ok (.caload, 1) := by decide +kernel
theorem d_RL_endOfName_13 : decode b_RL_endOfName 13 = .ok (.bipush 47, 2) := by decide +kernel
theorem d_RL_endOfName_15 : decode b_RL_endOfName 15 = .ok (.if_icmp .ne 5, 3) := by decide +kernel
theorem d_RL_endOfName_18 : decode b_RL_endOfName 18 = .ok (.iload_n 3, 1) := by decide +kernel
theorem d_RL_endOfName_19 : decode b_RL_endOfName 19 = .ok (.ireturn, 1) := by decide +kernel
theorem d_RL_endOfName_20 : decode b_RL_endOfName 20 = .ok (.iinc 3 1, 3) := by decide +kernel
theorem d_RL_endOfName_23 : decode b_RL_endOfName 23 = .ok (.goto (-21), 3) := by decide +kernel
theorem d_RL_endOfName_26 : decode b_RL_endOfName 26 = .ok (.iload_n 2, 1) := by decide +kernel
theorem d_RL_endOfName_27 : decode b_RL_endOfName 27 = .ok (.ireturn, 1) := by decide +kernel
abbrev w_RL_endOfName : List Cond := Cond.code y_RL_endOfName b_RL_endOfName 4 (some .int) :: ig_T
theorem g_RL_endOfName : GoodIn ig_T w_RL_endOfName := ig_T_good (ig_T_mem (List.mem_append_left _ (List.mem_of_getElem? (i := 135) rfl)) rfl)
set_option maxHeartbeats 4000000 in
set_option maxRecDepth 100000 in
theorem c_RL_endOfName (l : Launch) (dC : Nat → ClassId) (dI : Nat → Nat → Nat) (cC cI cZ cL : ClassId) (q0 qt qs qe qb ql : Nat) (nC : Int32) (tT : Nat → Int32) (f : Nat) (a : Nat) (sz : Nat) (hr : r_RL_endOfName tT f a) : Met l y_RL_endOfName w_RL_endOfName ({ frames := 0, cells := 0, slots := 0, locals := 0 }) (ig_Pc (dC, dI) ig_cl0 [(cC, .char), (cI, .int), (cZ, .boolean), (cL, .long)] [.ref q0, .int (nI f), .int (nI a)] [(q0, .inr (ciRL, [.ref qt, .ref qs, .ref qe, .ref qb, .ref ql, .int nC])), (qt, .inl (cC, 1000, .inl tT))] sz) (va_Qi (fun (r : Int32) (u : Unit) => ∃ zr : Nat, r = nI zr ∧ p_RL_endOfName tT f a zr ) (fun u t => va_P (dC, dI) ig_cl0 ((fun (u : Unit) => [(q0, .inr (ciRL, [.ref qt, .ref qs, .ref qe, .ref qb, .ref ql, .int nC])), (qt, .inl (cC, 1000, .inl tT))]) u) t.heap ∧ va_D (va_A [(q0, .inr (ciRL, [.ref qt, .ref qs, .ref qe, .ref qb, .ref ql, .int nC])), (qt, .inl (cC, 1000, .inl tT))] sz) ((fun (u : Unit) => [(q0, .inr (ciRL, [.ref qt, .ref qs, .ref qe, .ref qb, .ref ql, .int nC])), (qt, .inl (cC, 1000, .inl tT))]) u)) (va_A [(q0, .inr (ciRL, [.ref qt, .ref qs, .ref qe, .ref qb, .ref ql, .int nC])), (qt, .inl (cC, 1000, .inl tT))] sz)) 0 0 (va_A [(q0, .inr (ciRL, [.ref qt, .ref qs, .ref qe, .ref qb, .ref ql, .int nC])), (qt, .inl (cC, 1000, .inl tT))] sz) := by
  refine ig_metI (fun (r : Int32) (u : Unit) => ∃ zr : Nat, r = nI zr ∧ p_RL_endOfName tT f a zr ) (fun (u : Unit) => [(q0, .inr (ciRL, [.ref qt, .ref qs, .ref qe, .ref qb, .ref ql, .int nC])), (qt, .inl (cC, 1000, .inl tT))]) (by decide) rfl (Nat.le_of_ble_eq_true rfl) rfl (fun _ _ _ => rfl) ?_
  intro zp ze zs zm zargs zbelow zmeth zc zA zQ hx hb hml hown hts hK hN hA hret
  obtain ⟨K2, hK2⟩ : ∃ K : Nat → Prop, K = fun (b : Nat) => ig_W zp l ze ({ frames := 0, cells := 0, slots := 0, locals := 0 }) zs zm zargs zbelow zmeth zc (dC, dI) ig_cl0 zA zs.heap 4 0 0 zQ 2 [(0, .ref q0), (2, .int (nI a)), (3, .int (nI b))] [] [(q0, .inr (ciRL, [.ref qt, .ref qs, .ref qe, .ref qb, .ref ql, .int nC])), (qt, .inl (cC, 1000, .inl tT))] := ⟨_, rfl⟩
  have k2 : ∀ (b : Nat), v_RL_endOfName_2 tT f a K2 (p_RL_endOfName tT f a) b → K2 b := by
    intro b hv
    unfold v_RL_endOfName_2 at hv
    rw [hK2]
    show ig_W zp l ze ({ frames := 0, cells := 0, slots := 0, locals := 0 }) zs zm zargs zbelow zmeth zc (dC, dI) ig_cl0 zA zs.heap 4 0 0 zQ 2 [(0, .ref q0), (2, .int (nI a)), (3, .int (nI b))] [] [(q0, .inr (ciRL, [.ref qt, .ref qs, .ref qe, .ref qb, .ref ql, .int nC])), (qt, .inl (cC, 1000, .inl tT))]
    refine ig_iload_n hx hb 2 d_RL_endOfName_2 rfl rfl ?_
    refine ig_iload_n hx hb 1 d_RL_endOfName_3 rfl rfl ?_
    obtain ⟨h1, hv⟩ := hv
    obtain ⟨h2, hv⟩ := hv
    refine ig_icmp_geN (tgt := 26) hx hb b a rfl rfl d_RL_endOfName_4 (by decide) h1 h2 (fun h => ?_) (fun h => ?_)
    · have hv := hv.1 h
      refine ig_iload_n hx hb 1 d_RL_endOfName_26 rfl rfl ?_
      exact hret 27 _ (nI a) () d_RL_endOfName_27 ⟨a, rfl, hv⟩
    · have hv := hv.2 h
      refine ig_aload_n hx hb 0 d_RL_endOfName_7 rfl rfl ?_
      refine ig_get hx hb hts in_RL hown hK 0 rfl rfl 0 (by decide) (hts _ kw_0_27) (fun _ h => h) rfl d_RL_endOfName_8 ?_
      refine ig_iload_n hx hb 2 d_RL_endOfName_11 rfl rfl ?_
      obtain ⟨hc, hv⟩ := hv
      refine ig_cald (x := (tT b)) hx hb hK 1 0 rfl rfl b rfl hc (by decide) rfl d_RL_endOfName_12 ?_
      refine ig_bipush (v := 47) hx hb d_RL_endOfName_13 (by decide) ?_
      refine ig_icmp_ne (tgt := 20) hx hb d_RL_endOfName_15 (by decide) (fun h => ?_) (fun h => ?_)
      · have hv := hv.1 h
        refine ig_iinc (v := (nI (b + 1))) (lv' := [(3, .int (nI (b + 1))), (0, .ref q0), (2, .int (nI a))]) hx hb 2 d_RL_endOfName_20 rfl (ig_inc b 1 (by decide)) (by decide) rfl ?_
        refine ig_goto (tgt := 2) hx hb d_RL_endOfName_23 (by decide) ?_
        refine ig_lv (lv' := [(0, .ref q0), (2, .int (nI a)), (3, .int (nI (b + 1)))]) [1, 2, 0] rfl ?_
        rw [hK2] at hv
        exact hv
      · have hv := hv.2 h
        refine ig_iload_n hx hb 2 d_RL_endOfName_18 rfl rfl ?_
        exact hret 19 _ (nI b) () d_RL_endOfName_19 ⟨b, rfl, hv⟩
  have hv := t_RL_endOfName tT f a hr K2 k2
  unfold v_RL_endOfName at hv
  refine ig_iload_n hx hb 1 d_RL_endOfName_0 rfl rfl ?_
  refine ig_istore_n (lv' := [(3, .int (nI f)), (0, .ref q0), (1, .int (nI f)), (2, .int (nI a))]) hx hb d_RL_endOfName_1 rfl (by decide) rfl ?_
  refine ig_lv (lv' := [(0, .ref q0), (2, .int (nI a)), (3, .int (nI f))]) [1, 3, 0] rfl ?_
  rw [hK2] at hv
  exact hv
end
section
def r_IT_lastByte (tT : Nat → Int32) (k : Nat) (a : Nat) : Prop := k < a ∧ a ≤ 1000
def p_IT_lastByte (tT : Nat → Int32) (k : Nat) (a : Nat) (r : Int32) : Prop := r = (sp_last tT a k)
def v_IT_lastByte_65 (tT : Nat → Int32) (k : Nat) (a : Nat) (K85 : Nat → Nat → Prop) (Q : Int32 → Prop) (s0 : Bool) : Prop := (s0 = false → K85 (k + 1) (k + 1)) ∧ (s0 = true → K85 (k + 2) (k + 2))
def v_IT_lastByte_64 (tT : Nat → Int32) (k : Nat) (a : Nat) (K85 : Nat → Nat → Prop) (Q : Int32 → Prop) : Prop := v_IT_lastByte_65 tT k a K85 Q false
def v_IT_lastByte_60 (tT : Nat → Int32) (k : Nat) (a : Nat) (K85 : Nat → Nat → Prop) (Q : Int32 → Prop) : Prop := v_IT_lastByte_65 tT k a K85 Q true
def v_IT_lastByte_110 (tT : Nat → Int32) (k : Nat) (a : Nat) (K85 : Nat → Nat → Prop) (Q : Int32 → Prop) (fi : Nat) (b : Nat) : Prop := (b < 1000) ∧ ((¬ (tT b) = 92 → K85 fi (b + 1)) ∧ ((tT b) = 92 → K85 fi (b + 1 + 1)))
def v_IT_lastByte_85 (tT : Nat → Int32) (k : Nat) (a : Nat) (K85 : Nat → Nat → Prop) (Q : Int32 → Prop) (fi : Nat) (b : Nat) : Prop := (b < 2147483648) ∧ ((a < 2147483648) ∧ ((a ≤ b → Q (-1)) ∧ (¬ a ≤ b → (b < 1000) ∧ ((¬ (tT b) = 93 → v_IT_lastByte_110 tT k a K85 Q fi b) ∧ ((tT b) = 93 → (b < 2147483648) ∧ ((fi < 2147483648) ∧ ((b ≤ fi → v_IT_lastByte_110 tT k a K85 Q fi b) ∧ (¬ b ≤ fi → Q (nI b)))))))))
def v_IT_lastByte (tT : Nat → Int32) (k : Nat) (a : Nat) (K85 : Nat → Nat → Prop) (Q : Int32 → Prop) : Prop := (k < 1000) ∧ ((¬ (tT k) = 92 → (k < 1000) ∧ (((tT k) = 91 → (k + 1 < 2147483648) ∧ ((a < 2147483648) ∧ ((a ≤ k + 1 → v_IT_lastByte_64 tT k a K85 Q) ∧ (¬ a ≤ k + 1 → (k + 1 < 1000) ∧ (((tT (k + 1)) = 33 → v_IT_lastByte_60 tT k a K85 Q) ∧ (¬ (tT (k + 1)) = 33 → (k + 1 < 1000) ∧ ((¬ (tT (k + 1)) = 94 → v_IT_lastByte_64 tT k a K85 Q) ∧ ((tT (k + 1)) = 94 → v_IT_lastByte_60 tT k a K85 Q)))))))) ∧ (¬ (tT k) = 91 → Q (nI k)))) ∧ ((tT k) = 92 → (k + 1 < 2147483648) ∧ ((a < 2147483648) ∧ ((a ≤ k + 1 → Q (-1)) ∧ (¬ a ≤ k + 1 → Q (nI (k + 1)))))))
theorem t_IT_lastByte (tT : Nat → Int32) (k : Nat) (a : Nat) (hr : r_IT_lastByte tT k a) (K85 : Nat → Nat → Prop) (k85 : ∀ fi b, v_IT_lastByte_85 tT k a K85 (p_IT_lastByte tT k a) fi b → K85 fi b) : v_IT_lastByte tT k a K85 (p_IT_lastByte tT k a) := by
  obtain ⟨h1, h2⟩ := hr
  have key : tT k = 91 → ∀ d fi b, a - b ≤ d → fi ≤ b → b ≤ a + 1 → sp_sb tT a b (decide (b = fi)) = sp_end tT a k → K85 fi b := by
    intro h91 d
    induction d with
    | zero =>
      intro fi b hd hf hb hE
      have e1 : sp_sb tT a b (decide (b = fi)) = a + 1 := by rw [sp_sb, if_neg (by omega)]
      refine k85 fi b ?_
      unfold v_IT_lastByte_85
      refine ⟨by omega, by omega, fun _ => ?_, fun h => by omega⟩
      rw [p_IT_lastByte, sp_last, ← hE, e1, if_neg (by omega)]
    | succ d ih =>
      intro fi b hd hf hb hE
      refine k85 fi b ?_
      by_cases hab : a ≤ b
      · have e1 : sp_sb tT a b (decide (b = fi)) = a + 1 := by rw [sp_sb, if_neg (by omega)]
        unfold v_IT_lastByte_85
        refine ⟨by omega, by omega, fun _ => ?_, fun h => by omega⟩
        rw [p_IT_lastByte, sp_last, ← hE, e1, if_neg (by omega)]
      · have nx : (b = fi ∨ ¬ tT b = 93) → v_IT_lastByte_110 tT k a K85 (p_IT_lastByte tT k a) fi b := by
          intro hc
          have e1 : sp_sb tT a b (decide (b = fi)) = sp_sb tT a (sp_tok tT b) false := by
            rw [sp_sb.eq_1 tT a b, if_pos (by omega), if_pos (by simpa using hc)]
          unfold v_IT_lastByte_110
          refine ⟨by omega, fun hn => ?_, fun hy => ?_⟩
          · have e2 : sp_tok tT b = b + 1 := by rw [sp_tok, if_neg hn]
            refine ih fi (b + 1) (by omega) (by omega) (by omega) ?_
            rw [decide_eq_false (by omega), ← hE, e1, e2]
          · have e2 : sp_tok tT b = b + 1 + 1 := by rw [sp_tok, if_pos hy]
            refine ih fi (b + 1 + 1) (by omega) (by omega) (by omega) ?_
            rw [decide_eq_false (by omega), ← hE, e1, e2]
        unfold v_IT_lastByte_85
        refine ⟨by omega, by omega, fun h => absurd h hab, fun _ => ⟨by omega, fun hn => nx (Or.inr hn), fun hy => ⟨by omega, by omega, fun hle => nx (Or.inl (by omega)), fun hgt => ?_⟩⟩⟩
        have e1 : sp_sb tT a b (decide (b = fi)) = b + 1 := by
          rw [sp_sb, if_pos (by omega), if_neg]
          simp
          exact ⟨by omega, hy⟩
        rw [p_IT_lastByte, sp_last, ← hE, e1, if_pos (by omega), Nat.add_sub_cancel]
  have go : tT k = 91 → K85 (sp_sf tT a k) (sp_sf tT a k) := by
    intro h
    have := sp_sf_le (t := tT) h1
    refine key h a _ _ (by omega) (Nat.le_refl _) (by omega) ?_
    rw [decide_eq_true rfl, sp_sb_se, sp_end, if_neg (by rw [h]; decide), if_pos h]
  unfold v_IT_lastByte v_IT_lastByte_64 v_IT_lastByte_60 v_IT_lastByte_65
  refine ⟨by omega, fun hn => ⟨by omega, fun h91 => ?_, fun hn91 => ?_⟩, fun h92 => ⟨by omega, by omega, fun h => ?_, fun h => ?_⟩⟩
  · have g := go h91
    refine ⟨by omega, by omega, fun h => ?_, fun h => ⟨by omega, fun h33 => ?_, fun hn33 => ⟨by omega, fun hn94 => ?_, fun h94 => ?_⟩⟩⟩
    · rw [sp_sf, if_neg (by omega)] at g
      exact ⟨fun _ => g, fun h => by cases h⟩
    · rw [sp_sf, if_pos ⟨by omega, Or.inl h33⟩] at g
      exact ⟨fun h => (by cases h), fun _ => g⟩
    · rw [sp_sf, if_neg (by rintro ⟨-, q | q⟩ <;> contradiction)] at g
      exact ⟨fun _ => g, fun h => by cases h⟩
    · rw [sp_sf, if_pos ⟨by omega, Or.inr h94⟩] at g
      exact ⟨fun h => (by cases h), fun _ => g⟩
  · rw [p_IT_lastByte, sp_last, sp_end, if_neg hn, if_neg hn91, if_pos (by omega), Nat.add_sub_cancel]
  · rw [p_IT_lastByte, sp_last, sp_end, if_pos h92, if_neg (by omega)]
  · rw [p_IT_lastByte, sp_last, sp_end, if_pos h92, if_pos (by omega)]
    rfl

def r_IT_areWhole (tT : Nat → Int32) (f : Nat) (a : Nat) : Prop := f ≤ a ∧ a ≤ 1000
def p_IT_areWhole (tT : Nat → Int32) (f : Nat) (a : Nat) (r : Bool) : Prop := r = (decide (f < a) && !sp_void tT a f)
def v_IT_areWhole_2 (tT : Nat → Int32) (f : Nat) (a : Nat) (K2 : Nat → Prop) (Q : Bool → Prop) (b : Nat) : Prop := (b < 2147483648) ∧ ((a < 2147483648) ∧ ((a ≤ b → (f < 2147483648) ∧ ((a < 2147483648) ∧ ((a ≤ f → Q false) ∧ (¬ a ≤ f → Q true)))) ∧ (¬ a ≤ b → (r_IT_lastByte tT b a) ∧ (((nI b) ≤ (sp_last tT a b) → ∃ z1 : Nat, (sp_last tT a b) = nI z1 ∧ (K2 (z1 + 1))) ∧ (¬ (nI b) ≤ (sp_last tT a b) → Q false)))))
def v_IT_areWhole (tT : Nat → Int32) (f : Nat) (a : Nat) (K2 : Nat → Prop) (Q : Bool → Prop) : Prop := K2 f
theorem t_IT_areWhole (tT : Nat → Int32) (f : Nat) (a : Nat) (hr : r_IT_areWhole tT f a) (K2 : Nat → Prop) (k2 : ∀ b, v_IT_areWhole_2 tT f a K2 (p_IT_areWhole tT f a) b → K2 b) : v_IT_areWhole tT f a K2 (p_IT_areWhole tT f a) := by
  obtain ⟨h1, h2⟩ := hr
  have key : ∀ d b, a - b ≤ d → f ≤ b → b ≤ a → sp_void tT a b = sp_void tT a f → K2 b := by
    intro d
    induction d with
    | zero =>
      intro b hd hf hb hE
      have e1 : sp_void tT a b = false := by rw [sp_void, dif_neg (by omega)]
      refine k2 b ?_
      unfold v_IT_areWhole_2
      refine ⟨by omega, by omega, fun _ => ⟨by omega, by omega, fun h => ?_, fun h => ?_⟩, fun h => by omega⟩
      · rw [p_IT_areWhole, decide_eq_false (by omega)]
        rfl
      · rw [p_IT_areWhole, decide_eq_true (by omega), ← hE, e1]
        rfl
    | succ d ih =>
      intro b hd hf hb hE
      refine k2 b ?_
      unfold v_IT_areWhole_2
      refine ⟨by omega, by omega, fun hab => ⟨by omega, by omega, fun h => ?_, fun h => ?_⟩, fun hab => ⟨⟨by omega, h2⟩, fun hl => ?_, fun hl => ?_⟩⟩
      · rw [p_IT_areWhole, decide_eq_false (by omega)]
        rfl
      · have e1 : sp_void tT a b = false := by rw [sp_void, dif_neg (by omega)]
        rw [p_IT_areWhole, decide_eq_true (by omega), ← hE, e1]
        rfl
      · have hlt : b < a := by omega
        have hg := sp_end_gt (t := tT) hlt
        by_cases he : sp_end tT a b ≤ a
        · refine ⟨sp_end tT a b - 1, by rw [sp_last, if_pos he], ?_⟩
          rw [show sp_end tT a b - 1 + 1 = sp_end tT a b by omega]
          refine ih _ (by omega) (by omega) he ?_
          rw [← hE, sp_void.eq_1 tT a b, dif_pos hlt, if_pos he]
        · rw [sp_last, if_neg he] at hl
          exact absurd hl (ig_neg (by omega))
      · have hlt : b < a := by omega
        have hg := sp_end_gt (t := tT) hlt
        have he : ¬ sp_end tT a b ≤ a := by
          intro he
          rw [sp_last, if_pos he] at hl
          exact hl ((ig_le (by omega) (by omega)).mpr (by omega))
        have e1 : sp_void tT a b = true := by rw [sp_void, dif_pos hlt, if_neg he]
        rw [p_IT_areWhole, ← hE, e1]
        simp
  exact key (a - f) f (Nat.le_refl _) (Nat.le_refl _) h1 rfl

def r_PA_lengthOf (pS : Nat → Nat) (j : Nat) : Prop := j < 20 ∧ pS j + 1 ≤ pS (j + 1)
def p_PA_lengthOf (pS : Nat → Nat) (j : Nat) (r : Nat) : Prop := r = (pS (j + 1) - 1 - pS j)
def v_PA_lengthOf (pS : Nat → Nat) (j : Nat) (Q : Nat → Prop) : Prop := (j + 1 < 21) ∧ ((1 ≤ pS (j + 1)) ∧ ((j < 21) ∧ ((pS j ≤ (pS (j + 1)) - 1) ∧ (Q (((pS (j + 1)) - 1) - (pS j))))))
theorem t_PA_lengthOf (pS : Nat → Nat) (j : Nat) (hr : r_PA_lengthOf pS j)  : v_PA_lengthOf pS j (p_PA_lengthOf pS j) := by
  obtain ⟨h1, h2⟩ := hr
  unfold v_PA_lengthOf
  refine ⟨by omega, by omega, by omega, by omega, rfl⟩

def r_MA_startRow (zw : Nat → Bool) (zn : Nat) (n : Nat) (f : Nat) : Prop := n < zn ∧ zn ≤ 121 ∧ f < 2147483648
def q_MA_startRow (zw : Nat → Bool) (zn : Nat) (n : Nat) (f : Nat) (zw' : Nat → Bool) : Prop := ∀ j, j ≤ n → zw' j = decide (j = f)
def p_MA_startRow (zw : Nat → Bool) (zn : Nat) (n : Nat) (f : Nat) (zw' : Nat → Bool) : Prop := q_MA_startRow zw zn n f zw'
def v_MA_startRow_19 (zw : Nat → Bool) (zn : Nat) (n : Nat) (f : Nat) (K2 : Nat → (Nat → Bool) → Prop) (Q : (Nat → Bool) → Prop) (b : Nat) (s0 : Bool) (s1 : Nat) (zwc : Nat → Bool) : Prop := (s1 < zn) ∧ ((zn < 2147483648) ∧ (K2 (b + 1) (updB zwc s1 s0)))
def v_MA_startRow_2 (zw : Nat → Bool) (zn : Nat) (n : Nat) (f : Nat) (K2 : Nat → (Nat → Bool) → Prop) (Q : (Nat → Bool) → Prop) (b : Nat) (zwc : Nat → Bool) : Prop := (b < 2147483648) ∧ ((n < 2147483648) ∧ ((n < b → Q zwc) ∧ (¬ n < b → (b < 2147483648) ∧ ((f < 2147483648) ∧ ((¬ b = f → v_MA_startRow_19 zw zn n f K2 Q b false b zwc) ∧ (b = f → v_MA_startRow_19 zw zn n f K2 Q b true b zwc))))))
def v_MA_startRow (zw : Nat → Bool) (zn : Nat) (n : Nat) (f : Nat) (K2 : Nat → (Nat → Bool) → Prop) (Q : (Nat → Bool) → Prop) : Prop := K2 0 zw
theorem t_MA_startRow (zw : Nat → Bool) (zn : Nat) (n : Nat) (f : Nat) (hr : r_MA_startRow zw zn n f) (K2 : Nat → (Nat → Bool) → Prop) (k2 : ∀ b zwc, v_MA_startRow_2 zw zn n f K2 (p_MA_startRow zw zn n f) b zwc → K2 b zwc) : v_MA_startRow zw zn n f K2 (p_MA_startRow zw zn n f) := by
  obtain ⟨h1, h2, h3⟩ := hr
  have key : ∀ d b w, n + 1 - b = d → b ≤ n + 1 → (∀ j, j < b → w j = decide (j = f)) → K2 b w := by
    intro d
    induction d with
    | zero =>
      intro b w hd hb hI
      refine k2 b w ?_
      unfold v_MA_startRow_2
      refine ⟨by omega, by omega, fun _ => ?_, fun h => by omega⟩
      exact fun j hj => hI j (by omega)
    | succ d ih =>
      intro b w hd hb hI
      refine k2 b w ?_
      have nx : ∀ v, v = decide (b = f) → v_MA_startRow_19 zw zn n f K2 (p_MA_startRow zw zn n f) b v b w := by
        intro v hv
        unfold v_MA_startRow_19
        refine ⟨by omega, by omega, ih (b + 1) _ (by omega) (by omega) (fun j hj => ?_)⟩
        by_cases hjb : j = b
        · rw [hjb, updB_s, hv]
        · rw [updB_n hjb]; exact hI j (by omega)
      unfold v_MA_startRow_2
      refine ⟨by omega, by omega, fun h => by omega, fun _ => ⟨by omega, by omega, fun h => nx false (by rw [decide_eq_false h]), fun h => nx true (by rw [decide_eq_true h])⟩⟩
  exact key (n + 1) 0 zw rfl (Nat.zero_le _) (fun j hj => absurd hj (Nat.not_lt_zero _))

def r_MA_spread (zw : Nat → Bool) (zn : Nat) (n : Nat) : Prop := n < zn ∧ zn ≤ 121
def q_MA_spread (zw : Nat → Bool) (zn : Nat) (n : Nat) (zw' : Nat → Bool) : Prop := ∀ j, j ≤ n → (zw' j = true ↔ ∃ i, i ≤ j ∧ zw i = true)
def p_MA_spread (zw : Nat → Bool) (zn : Nat) (n : Nat) (zw' : Nat → Bool) : Prop := q_MA_spread zw zn n zw'
def v_MA_spread_28 (zw : Nat → Bool) (zn : Nat) (n : Nat) (K2 : Nat → (Nat → Bool) → Prop) (Q : (Nat → Bool) → Prop) (b : Nat) (s0 : Bool) (s1 : Nat) (zwc : Nat → Bool) : Prop := (s1 < zn) ∧ ((zn < 2147483648) ∧ (K2 (b + 1) (updB zwc s1 s0)))
def v_MA_spread_23 (zw : Nat → Bool) (zn : Nat) (n : Nat) (K2 : Nat → (Nat → Bool) → Prop) (Q : (Nat → Bool) → Prop) (b : Nat) (s0 : Nat) (zwc : Nat → Bool) : Prop := v_MA_spread_28 zw zn n K2 Q b true s0 zwc
def v_MA_spread_2 (zw : Nat → Bool) (zn : Nat) (n : Nat) (K2 : Nat → (Nat → Bool) → Prop) (Q : (Nat → Bool) → Prop) (b : Nat) (zwc : Nat → Bool) : Prop := (b < 2147483648) ∧ ((n < 2147483648) ∧ ((n < b → Q zwc) ∧ (¬ n < b → (b < zn) ∧ ((zn < 2147483648) ∧ ((zwc b = true → v_MA_spread_23 zw zn n K2 Q b b zwc) ∧ (zwc b = false → (1 ≤ b) ∧ ((b - 1 < zn) ∧ ((zn < 2147483648) ∧ ((zwc (b - 1) = false → v_MA_spread_28 zw zn n K2 Q b false b zwc) ∧ (zwc (b - 1) = true → v_MA_spread_23 zw zn n K2 Q b b zwc))))))))))
def v_MA_spread (zw : Nat → Bool) (zn : Nat) (n : Nat) (K2 : Nat → (Nat → Bool) → Prop) (Q : (Nat → Bool) → Prop) : Prop := K2 1 zw
theorem t_MA_spread (zw : Nat → Bool) (zn : Nat) (n : Nat) (hr : r_MA_spread zw zn n) (K2 : Nat → (Nat → Bool) → Prop) (k2 : ∀ b zwc, v_MA_spread_2 zw zn n K2 (p_MA_spread zw zn n) b zwc → K2 b zwc) : v_MA_spread zw zn n K2 (p_MA_spread zw zn n) := by
  obtain ⟨h1, h2⟩ := hr
  have key : ∀ d b w, n + 1 - b = d → 1 ≤ b → b ≤ n + 1 → (∀ j, j < b → (w j = true ↔ ∃ i, i ≤ j ∧ zw i = true)) → (∀ j, b ≤ j → w j = zw j) → K2 b w := by
    intro d
    induction d with
    | zero =>
      intro b w hd h1 hb hI hJ
      refine k2 b w ?_
      unfold v_MA_spread_2
      refine ⟨by omega, by omega, fun _ => ?_, fun h => by omega⟩
      exact fun j hj => hI j (by omega)
    | succ d ih =>
      intro b w hd hb1 hb hI hJ
      refine k2 b w ?_
      have a1 : n + 1 - (b + 1) = d := by omega
      have a2 : b + 1 ≤ n + 1 := by omega
      have a3 : b < zn := by omega
      have a4 : zn < 2147483648 := by omega
      have nx : ∀ v, (v = true ↔ ∃ i, i ≤ b ∧ zw i = true) → v_MA_spread_28 zw zn n K2 (p_MA_spread zw zn n) b v b w := by
        intro v hv
        unfold v_MA_spread_28
        refine ⟨a3, a4, ih (b + 1) _ a1 (Nat.le_add_left 1 b) a2 (fun j hj => ?_) (fun j hj => ?_)⟩
        · by_cases hjb : j = b
          · rw [hjb, updB_s]; exact hv
          · rw [updB_n hjb]; exact hI j (Nat.lt_of_le_of_ne (Nat.le_of_lt_succ hj) hjb)
        · rw [updB_n (Nat.ne_of_gt hj)]; exact hJ j (Nat.le_of_succ_le hj)
      unfold v_MA_spread_2 v_MA_spread_23
      refine ⟨by omega, by omega, fun h => by omega, fun _ => ⟨by omega, by omega, fun h => nx true ?_, fun h => ⟨by omega, by omega, by omega, fun h3 => nx false ?_, fun h3 => nx true ?_⟩⟩⟩
      · rw [hJ b (Nat.le_refl _)] at h
        exact ⟨fun _ => ⟨b, Nat.le_refl _, h⟩, fun _ => rfl⟩
      · rw [hJ b (Nat.le_refl _)] at h
        refine ⟨fun q => (by cases q), fun ⟨i, i1, i2⟩ => ?_⟩
        by_cases hi : i = b
        · rw [hi, h] at i2; cases i2
        · have := (hI (b - 1) (by omega)).mpr ⟨i, by omega, i2⟩
          rw [h3] at this; cases this
      · obtain ⟨i, i1, i2⟩ := (hI (b - 1) (by omega)).mp h3
        exact ⟨fun _ => ⟨i, by omega, i2⟩, fun _ => rfl⟩
  refine key n 1 zw (by omega) (Nat.le_refl _) (by omega) (fun j hj => ?_) (fun _ _ => rfl)
  have : j = 0 := by omega
  subst this
  exact ⟨fun h => ⟨0, Nat.le_refl _, h⟩, fun ⟨i, i1, i2⟩ => by rw [Nat.le_zero.mp i1] at i2; exact i2⟩

def r_MA_isDeep (tT : Nat → Int32) (f : Nat) (a : Nat) : Prop := f ≤ a ∧ a ≤ 1000
def p_MA_isDeep (tT : Nat → Int32) (f : Nat) (a : Nat) (r : Bool) : Prop := r = (sp_deep tT f a)
def v_MA_isDeep (tT : Nat → Int32) (f : Nat) (a : Nat) (Q : Bool → Prop) : Prop := (f ≤ a) ∧ ((a - f < 2147483648) ∧ ((¬ a - f = 2 → Q false) ∧ (a - f = 2 → (f < 1000) ∧ ((¬ (tT f) = 42 → Q false) ∧ ((tT f) = 42 → (f + 1 < 1000) ∧ ((¬ (tT (f + 1)) = 42 → Q false) ∧ ((tT (f + 1)) = 42 → Q true)))))))
theorem t_MA_isDeep (tT : Nat → Int32) (f : Nat) (a : Nat) (hr : r_MA_isDeep tT f a)  : v_MA_isDeep tT f a (p_MA_isDeep tT f a) := by
  obtain ⟨h1, h2⟩ := hr
  unfold v_MA_isDeep
  refine ⟨h1, by omega, fun h => ?_, fun h => ⟨by omega, fun h3 => ?_, fun h3 => ⟨by omega, fun h4 => ?_, fun h4 => ?_⟩⟩⟩
  · rw [p_MA_isDeep, sp_deep, decide_eq_false]
    rintro ⟨q, -⟩
    omega
  · rw [p_MA_isDeep, sp_deep, decide_eq_false]
    rintro ⟨-, q, -⟩
    exact h3 q
  · rw [p_MA_isDeep, sp_deep, decide_eq_false]
    rintro ⟨-, -, q⟩
    exact h4 q
  · rw [p_MA_isDeep, sp_deep, decide_eq_true]
    exact ⟨by omega, h3, h4⟩
end
section
theorem kw_0_10 : Cond.initialized "IgnoreRules$Items" ∈ ig_T := ig_T_mem (List.mem_append_left _ (List.mem_of_getElem? (i := 10) rfl)) rfl
theorem kw_0_64 : Cond.fieldLink "IgnoreRules$Path" 15 "IgnoreRules$Path" "starts" "[I" ∈ ig_T := ig_T_mem (List.mem_append_left _ (List.mem_of_getElem? (i := 64) rfl)) rfl
theorem kw_0_143 : Cond.methodLink "IgnoreRules$Items" 9 y_IT_lastByte ∈ ig_T := ig_T_mem (List.mem_append_left _ (List.mem_of_getElem? (i := 143) rfl)) rfl
theorem kw_0_144 : Cond.static y_IT_lastByte ∈ ig_T := ig_T_mem (List.mem_append_left _ (List.mem_of_getElem? (i := 144) rfl)) rfl
theorem d_IT_lastByte_0 : decode b_IT_lastByte 0 = .ok (.aload_n 0, 1) := by decide +kernel
theorem d_IT_lastByte_1 : decode b_IT_lastByte 1 = .ok (.iload_n 1, 1) := by decide +kernel
theorem d_IT_lastByte_2 : decode b_IT_lastByte 2 = .ok (.caload, 1) := by decide +kernel
theorem d_IT_lastByte_3 : decode b_IT_lastByte 3 = .ok (.bipush 92, 2) := by decide +kernel
theorem d_IT_lastByte_5 : decode b_IT_lastByte 5 = .ok (.if_icmp .ne 18, 3) := by decide +kernel
theorem d_IT_lastByte_8 : decode b_IT_lastByte 8 = .ok (.iload_n 1, 1) := by decide +kernel
theorem d_IT_lastByte_9 : decode b_IT_lastByte 9 = .ok (.iconst 1, 1) := by decide +kernel
theorem d_IT_lastByte_10 : decode b_IT_lastByte 10 = .ok (.iadd, 1) := by decide +kernel
theorem d_IT_lastByte_11 : decode b_IT_lastByte 11 = .ok (.iload_n 2, 1) := by decide +kernel
theorem d_IT_lastByte_12 : decode b_IT_lastByte 12 = .ok (.if_icmp .ge 9, 3) := by decide +kernel
theorem d_IT_lastByte_15 : decode b_IT_lastByte 15 = .ok (.iload_n 1, 1) := by decide +kernel
theorem d_IT_lastByte_16 : decode b_IT_lastByte 16 = .ok (.iconst 1, 1) := by decide +kernel
theorem d_IT_lastByte_17 : decode b_IT_lastByte 17 = .ok (.iadd, 1) := by decide +kernel
theorem d_IT_lastByte_18 : decode b_IT_lastByte 18 = .ok (.goto 4, 3) := by decide +kernel
theorem d_IT_lastByte_21 : decode b_IT_lastByte 21 = .ok (.iconst (-1), 1) := by decide +kernel
theorem d_IT_lastByte_22 : decode b_IT_lastByte 22 = .ok (.ireturn, 1) := by decide +kernel
theorem d_IT_lastByte_23 : decode b_IT_lastByte 23 = .ok (.aload_n 0, 1) := by decide +kernel
theorem d_IT_lastByte_24 : decode b_IT_lastByte 24 = .ok (.iload_n 1, 1) := by decide +kernel
theorem d_IT_lastByte_25 : decode b_IT_lastByte 25 = .ok (.caload, 1) := by decide +kernel
theorem d_IT_lastByte_26 : decode b_IT_lastByte 26 = .ok (.bipush 91, 2) := by decide +kernel
theorem d_IT_lastByte_28 : decode b_IT_lastByte 28 = .ok (.if_icmp .eq 5, 3) := by decide +kernel
theorem d_IT_lastByte_31 : decode b_IT_lastByte 31 = .ok (.iload_n 1, 1) := by decide +kernel
theorem d_IT_lastByte_32 : decode b_IT_lastByte 32 = .ok (.ireturn, 1) := by decide +kernel
theorem d_IT_lastByte_33 : decode b_IT_lastByte 33 = .ok (.iload_n 1, 1) := by decide +kernel
theorem d_IT_lastByte_34 : decode b_IT_lastByte 34 = .ok (.iconst 1, 1) := by decide +kernel
theorem d_IT_lastByte_35 : decode b_IT_lastByte 35 = .ok (.iadd, 1) := by decide +kernel
theorem d_IT_lastByte_36 : decode b_IT_lastByte 36 = .ok (.iload_n 2, 1) := by decide +kernel
theorem d_IT_lastByte_37 : decode b_IT_lastByte 37 = .ok (.if_icmp .ge 27, 3) := by decide +kernel
theorem d_IT_lastByte_40 : decode b_IT_lastByte 40 = .ok (.aload_n 0, 1) := by decide +kernel
theorem d_IT_lastByte_41 : decode b_IT_lastByte 41 = .ok (.iload_n 1, 1) := by decide +kernel
theorem d_IT_lastByte_42 : decode b_IT_lastByte 42 = .ok (.iconst 1, 1) := by decide +kernel
theorem d_IT_lastByte_43 : decode b_IT_lastByte 43 = .ok (.iadd, 1) := by decide +kernel
theorem d_IT_lastByte_44 : decode b_IT_lastByte 44 = .ok (.caload, 1) := by decide +kernel
theorem d_IT_lastByte_45 : decode b_IT_lastByte 45 = .ok (.bipush 33, 2) := by decide +kernel
theorem d_IT_lastByte_47 : decode b_IT_lastByte 47 = .ok (.if_icmp .eq 13, 3) := by decide +kernel
theorem d_IT_lastByte_50 : decode b_IT_lastByte 50 = .ok (.aload_n 0, 1) := by decide +kernel
theorem d_IT_lastByte_51 : decode b_IT_lastByte 51 = .ok (.iload_n 1, 1) := by decide +kernel
theorem d_IT_lastByte_52 : decode b_IT_lastByte 52 = .ok (.iconst 1, 1) := by decide +kernel
theorem d_IT_lastByte_53 : decode b_IT_lastByte 53 = .ok (.iadd, 1) := by decide +kernel
theorem d_IT_lastByte_54 : decode b_IT_lastByte 54 = .ok (.caload, 1) := by decide +kernel
theorem d_IT_lastByte_55 : decode b_IT_lastByte 55 = .ok (.bipush 94, 2) := by decide +kernel
theorem d_IT_lastByte_57 : decode b_IT_lastByte 57 = .ok (.if_icmp .ne 7, 3) := by decide +kernel
theorem d_IT_lastByte_60 : decode b_IT_lastByte 60 = .ok (.iconst 1, 1) := by decide +kernel
theorem d_IT_lastByte_61 : decode b_IT_lastByte 61 = .ok (.goto 4, 3) := by decide +kernel
theorem d_IT_lastByte_64 : decode b_IT_lastByte 64 = .ok (.iconst 0, 1) := by decide +kernel
theorem d_IT_lastByte_65 : decode b_IT_lastByte 65 = .ok (.istore_n 3, 1) := by decide +kernel
theorem d_IT_lastByte_66 : decode b_IT_lastByte 66 = .ok (.iload_n 3, 1) := by decide +kernel
theorem d_IT_lastByte_67 : decode b_IT_lastByte 67 = .ok (.ifCond .eq 9, 3) := by decide +kernel
theorem d_IT_lastByte_70 : decode b_IT_lastByte 70 = .ok (.iload_n 1, 1) := by decide +kernel
theorem d_IT_lastByte_71 : decode b_IT_lastByte 71 = .ok (.iconst 2, 1) := by decide +kernel
theorem d_IT_lastByte_72 : decode b_IT_lastByte 72 = .ok (.iadd, 1) := by decide +kernel
theorem d_IT_lastByte_73 : decode b_IT_lastByte 73 = .ok (.goto 6, 3) := by decide +kernel
theorem d_IT_lastByte_76 : decode b_IT_lastByte 76 = .ok (.iload_n 1, 1) := by decide +kernel
theorem d_IT_lastByte_77 : decode b_IT_lastByte 77 = .ok (.iconst 1, 1) := by decide +kernel
theorem d_IT_lastByte_78 : decode b_IT_lastByte 78 = .ok (.iadd, 1) := by decide +kernel
theorem d_IT_lastByte_79 : decode b_IT_lastByte 79 = .ok (.istore 4, 2) := by decide +kernel
theorem d_IT_lastByte_81 : decode b_IT_lastByte 81 = .ok (.iload 4, 2) := by decide +kernel
theorem d_IT_lastByte_83 : decode b_IT_lastByte 83 = .ok (.istore 5, 2) := by decide +kernel
theorem d_IT_lastByte_85 : decode b_IT_lastByte 85 = .ok (.iload 5, 2) := by decide +kernel
theorem d_IT_lastByte_87 : decode b_IT_lastByte 87 = .ok (.iload_n 2, 1) := by decide +kernel
theorem d_IT_lastByte_88 : decode b_IT_lastByte 88 = .ok (.if_icmp .ge 40, 3) := by decide +kernel
theorem d_IT_lastByte_91 : decode b_IT_lastByte 91 = .ok (.aload_n 0, 1) := by decide +kernel
theorem d_IT_lastByte_92 : decode b_IT_lastByte 92 = .ok (.iload 5, 2) := by decide +kernel
theorem d_IT_lastByte_94 : decode b_IT_lastByte 94 = .ok (.caload, 1) := by decide +kernel
theorem d_IT_lastByte_95 : decode b_IT_lastByte 95 = .ok (.bipush 93, 2) := by decide +kernel
theorem d_IT_lastByte_97 : decode b_IT_lastByte 97 = .ok (.if_icmp .ne 13, 3) := by decide +kernel
theorem d_IT_lastByte_100 : decode b_IT_lastByte 100 = .ok (.iload 5, 2) := by decide +kernel
theorem d_IT_lastByte_102 : decode b_IT_lastByte 102 = .ok (.iload 4, 2) := by decide +kernel
theorem d_IT_lastByte_104 : decode b_IT_lastByte 104 = .ok (.if_icmp .le 6, 3) := by decide +kernel
theorem d_IT_lastByte_107 : decode b_IT_lastByte 107 = .ok (.iload 5, 2) := by decide +kernel
theorem d_IT_lastByte_109 : decode b_IT_lastByte 109 = .ok (.ireturn, 1) := by decide +kernel
theorem d_IT_lastByte_110 : decode b_IT_lastByte 110 = .ok (.aload_n 0, 1) := by decide +kernel
theorem d_IT_lastByte_111 : decode b_IT_lastByte 111 = .ok (.iload 5, 2) := by decide +kernel
theorem d_IT_lastByte_113 : decode b_IT_lastByte 113 = .ok (.caload, 1) := by decide +kernel
theorem d_IT_lastByte_114 : decode b_IT_lastByte 114 = .ok (.bipush 92, 2) := by decide +kernel
theorem d_IT_lastByte_116 : decode b_IT_lastByte 116 = .ok (.if_icmp .ne 6, 3) := by decide +kernel
theorem d_IT_lastByte_119 : decode b_IT_lastByte 119 = .ok (.iinc 5 1, 3) := by decide +kernel
theorem d_IT_lastByte_122 : decode b_IT_lastByte 122 = .ok (.iinc 5 1, 3) := by decide +kernel
theorem d_IT_lastByte_125 : decode b_IT_lastByte 125 = .ok (.goto (-40), 3) := by decide +kernel
theorem d_IT_lastByte_128 : decode b_IT_lastByte 128 = .ok (.iconst (-1), 1) := by decide +kernel
theorem d_IT_lastByte_129 : decode b_IT_lastByte 129 = .ok (.ireturn, 1) := by decide +kernel
abbrev w_IT_lastByte : List Cond := Cond.code y_IT_lastByte b_IT_lastByte 6 (some .int) :: ig_T
theorem g_IT_lastByte : GoodIn ig_T w_IT_lastByte := ig_T_good (ig_T_mem (List.mem_append_left _ (List.mem_of_getElem? (i := 145) rfl)) rfl)
set_option maxHeartbeats 4000000 in
set_option maxRecDepth 100000 in
theorem c_IT_lastByte (l : Launch) (dC : Nat → ClassId) (dI : Nat → Nat → Nat) (cC cI cZ cL : ClassId) (qt : Nat)  (tT : Nat → Int32) (k : Nat) (a : Nat) (sz : Nat) (hr : r_IT_lastByte tT k a) : Met l y_IT_lastByte w_IT_lastByte ({ frames := 0, cells := 0, slots := 0, locals := 0 }) (ig_Pc (dC, dI) ig_cl0 [(cC, .char), (cI, .int), (cZ, .boolean), (cL, .long)] [.ref qt, .int (nI k), .int (nI a)] [(qt, .inl (cC, 1000, .inl tT))] sz) (va_Qi (fun (r : Int32) (u : Unit) => p_IT_lastByte tT k a r ) (fun u t => va_P (dC, dI) ig_cl0 ((fun (u : Unit) => [(qt, .inl (cC, 1000, .inl tT))]) u) t.heap ∧ va_D (va_A [(qt, .inl (cC, 1000, .inl tT))] sz) ((fun (u : Unit) => [(qt, .inl (cC, 1000, .inl tT))]) u)) (va_A [(qt, .inl (cC, 1000, .inl tT))] sz)) 0 0 (va_A [(qt, .inl (cC, 1000, .inl tT))] sz) := by
  refine ig_metI (fun (r : Int32) (u : Unit) => p_IT_lastByte tT k a r ) (fun (u : Unit) => [(qt, .inl (cC, 1000, .inl tT))]) (by decide) rfl (Nat.le_of_ble_eq_true rfl) rfl (fun _ _ _ => rfl) ?_
  intro zp ze zs zm zargs zbelow zmeth zc zA zQ hx hb hml hown hts hK hN hA hret
  obtain ⟨K85, hK85⟩ : ∃ K : Nat → Nat → Prop, K = fun (fi : Nat) (b : Nat) => ig_W zp l ze ({ frames := 0, cells := 0, slots := 0, locals := 0 }) zs zm zargs zbelow zmeth zc (dC, dI) ig_cl0 zA zs.heap 6 0 0 zQ 85 [(0, .ref qt), (2, .int (nI a)), (4, .int (nI fi)), (5, .int (nI b))] [] [(qt, .inl (cC, 1000, .inl tT))] := ⟨_, rfl⟩
  have j65 : ∀ (s0 : Bool), v_IT_lastByte_65 tT k a K85 (p_IT_lastByte tT k a) s0 → ig_W zp l ze ({ frames := 0, cells := 0, slots := 0, locals := 0 }) zs zm zargs zbelow zmeth zc (dC, dI) ig_cl0 zA zs.heap 6 0 0 zQ 65 [(0, .ref qt), (1, .int (nI k)), (2, .int (nI a))] [.int (bI s0)] [(qt, .inl (cC, 1000, .inl tT))] := by
    intro s0 hv
    unfold v_IT_lastByte_65 at hv
    refine ig_istore_n (lv' := [(3, .int (bI s0)), (0, .ref qt), (1, .int (nI k)), (2, .int (nI a))]) hx hb d_IT_lastByte_65 rfl (by decide) rfl ?_
    refine ig_iload_n hx hb 0 d_IT_lastByte_66 rfl rfl ?_
    refine ig_if_eqB (tgt := 76) hx hb s0 rfl d_IT_lastByte_67 (by decide) (fun h => ?_) (fun h => ?_)
    · have hv := hv.1 h
      refine ig_iload_n hx hb 2 d_IT_lastByte_76 rfl rfl ?_
      refine ig_iconst (v := 1) hx hb d_IT_lastByte_77 (by decide) ?_
      refine ig_iaddN hx hb k 1 rfl rfl d_IT_lastByte_78 ?_
      refine ig_istore (lv' := [(4, .int (nI (k + 1))), (3, .int (bI s0)), (0, .ref qt), (1, .int (nI k)), (2, .int (nI a))]) hx hb d_IT_lastByte_79 (by decide) rfl ?_
      refine ig_iload hx hb 0 d_IT_lastByte_81 rfl ?_
      refine ig_istore (lv' := [(5, .int (nI (k + 1))), (4, .int (nI (k + 1))), (3, .int (bI s0)), (0, .ref qt), (1, .int (nI k)), (2, .int (nI a))]) hx hb d_IT_lastByte_83 (by decide) rfl ?_
      refine ig_lv (lv' := [(0, .ref qt), (2, .int (nI a)), (4, .int (nI (k + 1))), (5, .int (nI (k + 1)))]) [3, 5, 1, 0] rfl ?_
      rw [hK85] at hv
      exact hv
    · have hv := hv.2 h
      refine ig_iload_n hx hb 2 d_IT_lastByte_70 rfl rfl ?_
      refine ig_iconst (v := 2) hx hb d_IT_lastByte_71 (by decide) ?_
      refine ig_iaddN hx hb k 2 rfl rfl d_IT_lastByte_72 ?_
      refine ig_goto (tgt := 79) hx hb d_IT_lastByte_73 (by decide) ?_
      refine ig_istore (lv' := [(4, .int (nI (k + 2))), (3, .int (bI s0)), (0, .ref qt), (1, .int (nI k)), (2, .int (nI a))]) hx hb d_IT_lastByte_79 (by decide) rfl ?_
      refine ig_iload hx hb 0 d_IT_lastByte_81 rfl ?_
      refine ig_istore (lv' := [(5, .int (nI (k + 2))), (4, .int (nI (k + 2))), (3, .int (bI s0)), (0, .ref qt), (1, .int (nI k)), (2, .int (nI a))]) hx hb d_IT_lastByte_83 (by decide) rfl ?_
      refine ig_lv (lv' := [(0, .ref qt), (2, .int (nI a)), (4, .int (nI (k + 2))), (5, .int (nI (k + 2)))]) [3, 5, 1, 0] rfl ?_
      rw [hK85] at hv
      exact hv
  have j64 : v_IT_lastByte_64 tT k a K85 (p_IT_lastByte tT k a) → ig_W zp l ze ({ frames := 0, cells := 0, slots := 0, locals := 0 }) zs zm zargs zbelow zmeth zc (dC, dI) ig_cl0 zA zs.heap 6 0 0 zQ 64 [(0, .ref qt), (1, .int (nI k)), (2, .int (nI a))] [] [(qt, .inl (cC, 1000, .inl tT))] := by
    intro hv
    unfold v_IT_lastByte_64 at hv
    refine ig_iconst (v := 0) hx hb d_IT_lastByte_64 (by decide) ?_
    refine ig_lv (lv' := [(0, .ref qt), (1, .int (nI k)), (2, .int (nI a))]) [0, 1, 2] rfl ?_
    exact j65 _ hv
  have j60 : v_IT_lastByte_60 tT k a K85 (p_IT_lastByte tT k a) → ig_W zp l ze ({ frames := 0, cells := 0, slots := 0, locals := 0 }) zs zm zargs zbelow zmeth zc (dC, dI) ig_cl0 zA zs.heap 6 0 0 zQ 60 [(0, .ref qt), (1, .int (nI k)), (2, .int (nI a))] [] [(qt, .inl (cC, 1000, .inl tT))] := by
    intro hv
    unfold v_IT_lastByte_60 at hv
    refine ig_iconst (v := 1) hx hb d_IT_lastByte_60 (by decide) ?_
    refine ig_goto (tgt := 65) hx hb d_IT_lastByte_61 (by decide) ?_
    refine ig_lv (lv' := [(0, .ref qt), (1, .int (nI k)), (2, .int (nI a))]) [0, 1, 2] rfl ?_
    exact j65 _ hv
  have j110 : ∀ (fi : Nat) (b : Nat), v_IT_lastByte_110 tT k a K85 (p_IT_lastByte tT k a) fi b → ig_W zp l ze ({ frames := 0, cells := 0, slots := 0, locals := 0 }) zs zm zargs zbelow zmeth zc (dC, dI) ig_cl0 zA zs.heap 6 0 0 zQ 110 [(0, .ref qt), (2, .int (nI a)), (4, .int (nI fi)), (5, .int (nI b))] [] [(qt, .inl (cC, 1000, .inl tT))] := by
    intro fi b hv
    unfold v_IT_lastByte_110 at hv
    refine ig_aload_n hx hb 0 d_IT_lastByte_110 rfl rfl ?_
    refine ig_iload hx hb 3 d_IT_lastByte_111 rfl ?_
    obtain ⟨hc, hv⟩ := hv
    refine ig_cald (x := (tT b)) hx hb hK 0 0 rfl rfl b rfl hc (by decide) rfl d_IT_lastByte_113 ?_
    refine ig_bipush (v := 92) hx hb d_IT_lastByte_114 (by decide) ?_
    refine ig_icmp_ne (tgt := 122) hx hb d_IT_lastByte_116 (by decide) (fun h => ?_) (fun h => ?_)
    · have hv := hv.1 h
      refine ig_iinc (v := (nI (b + 1))) (lv' := [(5, .int (nI (b + 1))), (0, .ref qt), (2, .int (nI a)), (4, .int (nI fi))]) hx hb 3 d_IT_lastByte_122 rfl (ig_inc b 1 (by decide)) (by decide) rfl ?_
      refine ig_goto (tgt := 85) hx hb d_IT_lastByte_125 (by decide) ?_
      refine ig_lv (lv' := [(0, .ref qt), (2, .int (nI a)), (4, .int (nI fi)), (5, .int (nI (b + 1)))]) [1, 2, 3, 0] rfl ?_
      rw [hK85] at hv
      exact hv
    · have hv := hv.2 h
      refine ig_iinc (v := (nI (b + 1))) (lv' := [(5, .int (nI (b + 1))), (0, .ref qt), (2, .int (nI a)), (4, .int (nI fi))]) hx hb 3 d_IT_lastByte_119 rfl (ig_inc b 1 (by decide)) (by decide) rfl ?_
      refine ig_iinc (v := (nI (b + 1 + 1))) (lv' := [(5, .int (nI (b + 1 + 1))), (0, .ref qt), (2, .int (nI a)), (4, .int (nI fi))]) hx hb 0 d_IT_lastByte_122 rfl (ig_inc (b + 1) 1 (by decide)) (by decide) rfl ?_
      refine ig_goto (tgt := 85) hx hb d_IT_lastByte_125 (by decide) ?_
      refine ig_lv (lv' := [(0, .ref qt), (2, .int (nI a)), (4, .int (nI fi)), (5, .int (nI (b + 1 + 1)))]) [1, 2, 3, 0] rfl ?_
      rw [hK85] at hv
      exact hv
  have k85 : ∀ (fi : Nat) (b : Nat), v_IT_lastByte_85 tT k a K85 (p_IT_lastByte tT k a) fi b → K85 fi b := by
    intro fi b hv
    unfold v_IT_lastByte_85 at hv
    rw [hK85]
    show ig_W zp l ze ({ frames := 0, cells := 0, slots := 0, locals := 0 }) zs zm zargs zbelow zmeth zc (dC, dI) ig_cl0 zA zs.heap 6 0 0 zQ 85 [(0, .ref qt), (2, .int (nI a)), (4, .int (nI fi)), (5, .int (nI b))] [] [(qt, .inl (cC, 1000, .inl tT))]
    refine ig_iload hx hb 3 d_IT_lastByte_85 rfl ?_
    refine ig_iload_n hx hb 1 d_IT_lastByte_87 rfl rfl ?_
    obtain ⟨h1, hv⟩ := hv
    obtain ⟨h2, hv⟩ := hv
    refine ig_icmp_geN (tgt := 128) hx hb b a rfl rfl d_IT_lastByte_88 (by decide) h1 h2 (fun h => ?_) (fun h => ?_)
    · have hv := hv.1 h
      refine ig_iconst (v := (-1)) hx hb d_IT_lastByte_128 (by decide) ?_
      exact hret 129 _ (-1) () d_IT_lastByte_129 hv
    · have hv := hv.2 h
      refine ig_aload_n hx hb 0 d_IT_lastByte_91 rfl rfl ?_
      refine ig_iload hx hb 3 d_IT_lastByte_92 rfl ?_
      obtain ⟨hc, hv⟩ := hv
      refine ig_cald (x := (tT b)) hx hb hK 0 0 rfl rfl b rfl hc (by decide) rfl d_IT_lastByte_94 ?_
      refine ig_bipush (v := 93) hx hb d_IT_lastByte_95 (by decide) ?_
      refine ig_icmp_ne (tgt := 110) hx hb d_IT_lastByte_97 (by decide) (fun h => ?_) (fun h => ?_)
      · have hv := hv.1 h
        refine ig_lv (lv' := [(0, .ref qt), (2, .int (nI a)), (4, .int (nI fi)), (5, .int (nI b))]) [0, 1, 2, 3] rfl ?_
        exact j110 _ _ hv
      · have hv := hv.2 h
        refine ig_iload hx hb 3 d_IT_lastByte_100 rfl ?_
        refine ig_iload hx hb 2 d_IT_lastByte_102 rfl ?_
        obtain ⟨h1, hv⟩ := hv
        obtain ⟨h2, hv⟩ := hv
        refine ig_icmp_leN (tgt := 110) hx hb b fi rfl rfl d_IT_lastByte_104 (by decide) h1 h2 (fun h => ?_) (fun h => ?_)
        · have hv := hv.1 h
          refine ig_lv (lv' := [(0, .ref qt), (2, .int (nI a)), (4, .int (nI fi)), (5, .int (nI b))]) [0, 1, 2, 3] rfl ?_
          exact j110 _ _ hv
        · have hv := hv.2 h
          refine ig_iload hx hb 3 d_IT_lastByte_107 rfl ?_
          exact hret 109 _ (nI b) () d_IT_lastByte_109 hv
  have hv := t_IT_lastByte tT k a hr K85 k85
  unfold v_IT_lastByte at hv
  refine ig_aload_n hx hb 0 d_IT_lastByte_0 rfl rfl ?_
  refine ig_iload_n hx hb 1 d_IT_lastByte_1 rfl rfl ?_
  obtain ⟨hc, hv⟩ := hv
  refine ig_cald (x := (tT k)) hx hb hK 0 0 rfl rfl k rfl hc (by decide) rfl d_IT_lastByte_2 ?_
  refine ig_bipush (v := 92) hx hb d_IT_lastByte_3 (by decide) ?_
  refine ig_icmp_ne (tgt := 23) hx hb d_IT_lastByte_5 (by decide) (fun h => ?_) (fun h => ?_)
  · have hv := hv.1 h
    refine ig_aload_n hx hb 0 d_IT_lastByte_23 rfl rfl ?_
    refine ig_iload_n hx hb 1 d_IT_lastByte_24 rfl rfl ?_
    obtain ⟨hc, hv⟩ := hv
    refine ig_cald (x := (tT k)) hx hb hK 0 0 rfl rfl k rfl hc (by decide) rfl d_IT_lastByte_25 ?_
    refine ig_bipush (v := 91) hx hb d_IT_lastByte_26 (by decide) ?_
    refine ig_icmp_eq (tgt := 33) hx hb d_IT_lastByte_28 (by decide) (fun h => ?_) (fun h => ?_)
    · have hv := hv.1 h
      refine ig_iload_n hx hb 1 d_IT_lastByte_33 rfl rfl ?_
      refine ig_iconst (v := 1) hx hb d_IT_lastByte_34 (by decide) ?_
      refine ig_iaddN hx hb k 1 rfl rfl d_IT_lastByte_35 ?_
      refine ig_iload_n hx hb 2 d_IT_lastByte_36 rfl rfl ?_
      obtain ⟨h1, hv⟩ := hv
      obtain ⟨h2, hv⟩ := hv
      refine ig_icmp_geN (tgt := 64) hx hb (k + 1) a rfl rfl d_IT_lastByte_37 (by decide) h1 h2 (fun h => ?_) (fun h => ?_)
      · have hv := hv.1 h
        refine ig_lv (lv' := [(0, .ref qt), (1, .int (nI k)), (2, .int (nI a))]) [0, 1, 2] rfl ?_
        exact j64 hv
      · have hv := hv.2 h
        refine ig_aload_n hx hb 0 d_IT_lastByte_40 rfl rfl ?_
        refine ig_iload_n hx hb 1 d_IT_lastByte_41 rfl rfl ?_
        refine ig_iconst (v := 1) hx hb d_IT_lastByte_42 (by decide) ?_
        refine ig_iaddN hx hb k 1 rfl rfl d_IT_lastByte_43 ?_
        obtain ⟨hc, hv⟩ := hv
        refine ig_cald (x := (tT (k + 1))) hx hb hK 0 0 rfl rfl (k + 1) rfl hc (by decide) rfl d_IT_lastByte_44 ?_
        refine ig_bipush (v := 33) hx hb d_IT_lastByte_45 (by decide) ?_
        refine ig_icmp_eq (tgt := 60) hx hb d_IT_lastByte_47 (by decide) (fun h => ?_) (fun h => ?_)
        · have hv := hv.1 h
          refine ig_lv (lv' := [(0, .ref qt), (1, .int (nI k)), (2, .int (nI a))]) [0, 1, 2] rfl ?_
          exact j60 hv
        · have hv := hv.2 h
          refine ig_aload_n hx hb 0 d_IT_lastByte_50 rfl rfl ?_
          refine ig_iload_n hx hb 1 d_IT_lastByte_51 rfl rfl ?_
          refine ig_iconst (v := 1) hx hb d_IT_lastByte_52 (by decide) ?_
          refine ig_iaddN hx hb k 1 rfl rfl d_IT_lastByte_53 ?_
          obtain ⟨hc, hv⟩ := hv
          refine ig_cald (x := (tT (k + 1))) hx hb hK 0 0 rfl rfl (k + 1) rfl hc (by decide) rfl d_IT_lastByte_54 ?_
          refine ig_bipush (v := 94) hx hb d_IT_lastByte_55 (by decide) ?_
          refine ig_icmp_ne (tgt := 64) hx hb d_IT_lastByte_57 (by decide) (fun h => ?_) (fun h => ?_)
          · have hv := hv.1 h
            refine ig_lv (lv' := [(0, .ref qt), (1, .int (nI k)), (2, .int (nI a))]) [0, 1, 2] rfl ?_
            exact j64 hv
          · have hv := hv.2 h
            refine ig_lv (lv' := [(0, .ref qt), (1, .int (nI k)), (2, .int (nI a))]) [0, 1, 2] rfl ?_
            exact j60 hv
    · have hv := hv.2 h
      refine ig_iload_n hx hb 1 d_IT_lastByte_31 rfl rfl ?_
      exact hret 32 _ (nI k) () d_IT_lastByte_32 hv
  · have hv := hv.2 h
    refine ig_iload_n hx hb 1 d_IT_lastByte_8 rfl rfl ?_
    refine ig_iconst (v := 1) hx hb d_IT_lastByte_9 (by decide) ?_
    refine ig_iaddN hx hb k 1 rfl rfl d_IT_lastByte_10 ?_
    refine ig_iload_n hx hb 2 d_IT_lastByte_11 rfl rfl ?_
    obtain ⟨h1, hv⟩ := hv
    obtain ⟨h2, hv⟩ := hv
    refine ig_icmp_geN (tgt := 21) hx hb (k + 1) a rfl rfl d_IT_lastByte_12 (by decide) h1 h2 (fun h => ?_) (fun h => ?_)
    · have hv := hv.1 h
      refine ig_iconst (v := (-1)) hx hb d_IT_lastByte_21 (by decide) ?_
      exact hret 22 _ (-1) () d_IT_lastByte_22 hv
    · have hv := hv.2 h
      refine ig_iload_n hx hb 1 d_IT_lastByte_15 rfl rfl ?_
      refine ig_iconst (v := 1) hx hb d_IT_lastByte_16 (by decide) ?_
      refine ig_iaddN hx hb k 1 rfl rfl d_IT_lastByte_17 ?_
      refine ig_goto (tgt := 22) hx hb d_IT_lastByte_18 (by decide) ?_
      exact hret 22 _ (nI (k + 1)) () d_IT_lastByte_22 hv
theorem d_IT_areWhole_0 : decode b_IT_areWhole 0 = .ok (.iload_n 1, 1) := by decide +kernel
theorem d_IT_areWhole_1 : decode b_IT_areWhole 1 = .ok (.istore_n 3, 1) := by decide +kernel
theorem d_IT_areWhole_2 : decode b_IT_areWhole 2 = .ok (.iload_n 3, 1) := by decide +kernel
theorem d_IT_areWhole_3 : decode b_IT_areWhole 3 = .ok (.iload_n 2, 1) := by decide +kernel
theorem d_IT_areWhole_4 : decode b_IT_areWhole 4 = .ok (.if_icmp .ge 28, 3) := by decide +kernel
theorem d_IT_areWhole_7 : decode b_IT_areWhole 7 = .ok (.aload_n 0, 1) := by decide +kernel
theorem d_IT_areWhole_8 : decode b_IT_areWhole 8 = .ok (.iload_n 3, 1) := by decide +kernel
theorem d_IT_areWhole_9 : decode b_IT_areWhole 9 = .ok (.iload_n 2, 1) := by decide +kernel
theorem d_IT_areWhole_10 : decode b_IT_areWhole 10 = .ok (.invokestatic 9, 3) := by decide +kernel
theorem d_IT_areWhole_13 : decode b_IT_areWhole 13 = .ok (.istore 4, 2) := by decide +kernel
theorem d_IT_areWhole_15 : decode b_IT_areWhole 15 = .ok (.iload 4, 2) := by decide +kernel
theorem d_IT_areWhole_17 : decode b_IT_areWhole 17 = .ok (.iload_n 3, 1) := by decide +kernel
theorem d_IT_areWhole_18 : decode b_IT_areWhole 18 = .ok (.if_icmp .ge 5, 3) := by decide +kernel
theorem d_IT_areWhole_21 : decode b_IT_areWhole 21 = .ok (.iconst 0, 1) := by decide +kernel
theorem d_IT_areWhole_22 : decode b_IT_areWhole 22 = .ok (.ireturn, 1) := by decide +kernel
theorem d_IT_areWhole_23 : decode b_IT_areWhole 23 = .ok (.iload 4, 2) := by decide +kernel
theorem d_IT_areWhole_25 : decode b_IT_areWhole 25 = .ok (.istore_n 3, 1) := by decide +kernel
theorem d_IT_areWhole_26 : decode b_IT_areWhole 26 = .ok (.iinc 3 1, 3) := by decide +kernel
theorem d_IT_areWhole_29 : decode b_IT_areWhole 29 = .ok (.goto (-27), 3) := by decide +kernel
theorem d_IT_areWhole_32 : decode b_IT_areWhole 32 = .ok (.iload_n 1, 1) := by decide +kernel
theorem d_IT_areWhole_33 : decode b_IT_areWhole 33 = .ok (.iload_n 2, 1) := by decide +kernel
theorem d_IT_areWhole_34 : decode b_IT_areWhole 34 = .ok (.if_icmp .ge 7, 3) := by decide +kernel
theorem d_IT_areWhole_37 : decode b_IT_areWhole 37 = .ok (.iconst 1, 1) := by decide +kernel
theorem d_IT_areWhole_38 : decode b_IT_areWhole 38 = .ok (.goto 4, 3) := by decide +kernel
theorem d_IT_areWhole_41 : decode b_IT_areWhole 41 = .ok (.iconst 0, 1) := by decide +kernel
theorem d_IT_areWhole_42 : decode b_IT_areWhole 42 = .ok (.ireturn, 1) := by decide +kernel
abbrev w_IT_areWhole : List Cond := Cond.code y_IT_areWhole b_IT_areWhole 5 (some .boolean) :: ig_T
theorem g_IT_areWhole : GoodIn ig_T w_IT_areWhole := ig_T_good (ig_T_mem (List.mem_append_left _ (List.mem_of_getElem? (i := 142) rfl)) rfl)
set_option maxHeartbeats 4000000 in
set_option maxRecDepth 100000 in
theorem c_IT_areWhole (l : Launch) (dC : Nat → ClassId) (dI : Nat → Nat → Nat) (cC cI cZ cL : ClassId) (qt : Nat)  (tT : Nat → Int32) (f : Nat) (a : Nat) (sz : Nat) (hr : r_IT_areWhole tT f a) : Met l y_IT_areWhole w_IT_areWhole ({ frames := 1, cells := 0, slots := 0, locals := 25 }) (ig_Pc (dC, dI) ig_cl0 [(cC, .char), (cI, .int), (cZ, .boolean), (cL, .long)] [.ref qt, .int (nI f), .int (nI a)] [(qt, .inl (cC, 1000, .inl tT))] sz) (va_Qi (fun (r : Int32) (u : Unit) => ∃ zr : Bool, r = bI zr ∧ p_IT_areWhole tT f a zr ) (fun u t => va_P (dC, dI) ig_cl0 ((fun (u : Unit) => [(qt, .inl (cC, 1000, .inl tT))]) u) t.heap ∧ va_D (va_A [(qt, .inl (cC, 1000, .inl tT))] sz) ((fun (u : Unit) => [(qt, .inl (cC, 1000, .inl tT))]) u)) (va_A [(qt, .inl (cC, 1000, .inl tT))] sz)) 0 0 (va_A [(qt, .inl (cC, 1000, .inl tT))] sz) := by
  refine ig_metI (fun (r : Int32) (u : Unit) => ∃ zr : Bool, r = bI zr ∧ p_IT_areWhole tT f a zr ) (fun (u : Unit) => [(qt, .inl (cC, 1000, .inl tT))]) (by decide) rfl (Nat.le_of_ble_eq_true rfl) rfl (by rintro r u ⟨b, rfl, -⟩; exact bI_ret b) ?_
  intro zp ze zs zm zargs zbelow zmeth zc zA zQ hx hb hml hown hts hK hN hA hret
  obtain ⟨K2, hK2⟩ : ∃ K : Nat → Prop, K = fun (b : Nat) => ig_W zp l ze ({ frames := 1, cells := 0, slots := 0, locals := 25 }) zs zm zargs zbelow zmeth zc (dC, dI) ig_cl0 zA zs.heap 5 0 0 zQ 2 [(0, .ref qt), (1, .int (nI f)), (2, .int (nI a)), (3, .int (nI b))] [] [(qt, .inl (cC, 1000, .inl tT))] := ⟨_, rfl⟩
  have k2 : ∀ (b : Nat), v_IT_areWhole_2 tT f a K2 (p_IT_areWhole tT f a) b → K2 b := by
    intro b hv
    unfold v_IT_areWhole_2 at hv
    rw [hK2]
    show ig_W zp l ze ({ frames := 1, cells := 0, slots := 0, locals := 25 }) zs zm zargs zbelow zmeth zc (dC, dI) ig_cl0 zA zs.heap 5 0 0 zQ 2 [(0, .ref qt), (1, .int (nI f)), (2, .int (nI a)), (3, .int (nI b))] [] [(qt, .inl (cC, 1000, .inl tT))]
    refine ig_iload_n hx hb 3 d_IT_areWhole_2 rfl rfl ?_
    refine ig_iload_n hx hb 2 d_IT_areWhole_3 rfl rfl ?_
    obtain ⟨h1, hv⟩ := hv
    obtain ⟨h2, hv⟩ := hv
    refine ig_icmp_geN (tgt := 32) hx hb b a rfl rfl d_IT_areWhole_4 (by decide) h1 h2 (fun h => ?_) (fun h => ?_)
    · have hv := hv.1 h
      refine ig_iload_n hx hb 1 d_IT_areWhole_32 rfl rfl ?_
      refine ig_iload_n hx hb 2 d_IT_areWhole_33 rfl rfl ?_
      obtain ⟨h1, hv⟩ := hv
      obtain ⟨h2, hv⟩ := hv
      refine ig_icmp_geN (tgt := 41) hx hb f a rfl rfl d_IT_areWhole_34 (by decide) h1 h2 (fun h => ?_) (fun h => ?_)
      · have hv := hv.1 h
        refine ig_iconst (v := 0) hx hb d_IT_areWhole_41 (by decide) ?_
        exact hret 42 _ 0 () d_IT_areWhole_42 ⟨false, rfl, hv⟩
      · have hv := hv.2 h
        refine ig_iconst (v := 1) hx hb d_IT_areWhole_37 (by decide) ?_
        refine ig_goto (tgt := 42) hx hb d_IT_areWhole_38 (by decide) ?_
        exact hret 42 _ 1 () d_IT_areWhole_42 ⟨true, rfl, hv⟩
    · have hv := hv.2 h
      refine ig_aload_n hx hb 0 d_IT_areWhole_7 rfl rfl ?_
      refine ig_iload_n hx hb 3 d_IT_areWhole_8 rfl rfl ?_
      refine ig_iload_n hx hb 2 d_IT_areWhole_9 rfl rfl ?_
      obtain ⟨hc, hv⟩ := hv
      refine ig_cSi (As := [.ref qt, .int (nI b), .int (nI a)]) (rest := []) (wr := []) (ws' := fun u => [(qt, .inl (cC, 1000, .inl tT))]) hx hb hml hown hts hK hN hA (fun sz => c_IT_lastByte l dC dI cC cI cZ cL qt tT b a sz hc) ⟨callB_of 3 hts g_IT_lastByte rfl rfl rfl (hts _ kw_0_10) (hts _ kw_0_143) (by decide +kernel) (by decide), hts _ kw_0_144⟩ rfl rfl (Nat.le_of_ble_eq_true rfl) d_IT_areWhole_10 (by decide) [0] [] [0] rfl rfl (by decide) (by decide) (by decide) (fun _ => rfl) (fun _ => rfl) (fun r u hr => ?_)
      unfold p_IT_lastByte at hr
      subst hr
      refine ig_istore (lv' := [(4, .int (sp_last tT a b)), (0, .ref qt), (1, .int (nI f)), (2, .int (nI a)), (3, .int (nI b))]) hx hb d_IT_areWhole_13 (by decide) rfl ?_
      refine ig_iload hx hb 0 d_IT_areWhole_15 rfl ?_
      refine ig_iload_n hx hb 4 d_IT_areWhole_17 rfl rfl ?_
      refine ig_icmp_ge (tgt := 23) hx hb d_IT_areWhole_18 (by decide) (fun h => ?_) (fun h => ?_)
      · have hv := hv.1 h
        obtain ⟨z1, he, hv⟩ := hv
        rw [he]
        refine ig_iload hx hb 0 d_IT_areWhole_23 rfl ?_
        refine ig_istore_n (lv' := [(3, .int (nI z1)), (4, .int (nI z1)), (0, .ref qt), (1, .int (nI f)), (2, .int (nI a))]) hx hb d_IT_areWhole_25 rfl (by decide) rfl ?_
        refine ig_iinc (v := (nI (z1 + 1))) (lv' := [(3, .int (nI (z1 + 1))), (4, .int (nI z1)), (0, .ref qt), (1, .int (nI f)), (2, .int (nI a))]) hx hb 0 d_IT_areWhole_26 rfl (ig_inc z1 1 (by decide)) (by decide) rfl ?_
        refine ig_goto (tgt := 2) hx hb d_IT_areWhole_29 (by decide) ?_
        refine ig_lv (lv' := [(0, .ref qt), (1, .int (nI f)), (2, .int (nI a)), (3, .int (nI (z1 + 1)))]) [2, 3, 4, 0] rfl ?_
        rw [hK2] at hv
        exact hv
      · have hv := hv.2 h
        refine ig_iconst (v := 0) hx hb d_IT_areWhole_21 (by decide) ?_
        exact hret 22 _ 0 () d_IT_areWhole_22 ⟨false, rfl, hv⟩
  have hv := t_IT_areWhole tT f a hr K2 k2
  unfold v_IT_areWhole at hv
  refine ig_iload_n hx hb 1 d_IT_areWhole_0 rfl rfl ?_
  refine ig_istore_n (lv' := [(3, .int (nI f)), (0, .ref qt), (1, .int (nI f)), (2, .int (nI a))]) hx hb d_IT_areWhole_1 rfl (by decide) rfl ?_
  refine ig_lv (lv' := [(0, .ref qt), (1, .int (nI f)), (2, .int (nI a)), (3, .int (nI f))]) [1, 2, 3, 0] rfl ?_
  rw [hK2] at hv
  exact hv
theorem d_PA_lengthOf_0 : decode b_PA_lengthOf 0 = .ok (.aload_n 0, 1) := by decide +kernel
theorem d_PA_lengthOf_1 : decode b_PA_lengthOf 1 = .ok (.getfield 15, 3) := by decide +kernel
theorem d_PA_lengthOf_4 : decode b_PA_lengthOf 4 = .ok (.iload_n 1, 1) := by decide +kernel
theorem d_PA_lengthOf_5 : decode b_PA_lengthOf 5 = .ok (.iconst 1, 1) := by decide +kernel
theorem d_PA_lengthOf_6 : decode b_PA_lengthOf 6 = .ok (.iadd, 1) := by decide +kernel
theorem d_PA_lengthOf_7 : decode b_PA_lengthOf 7 = .ok (.iaload, 1) := by decide +kernel
theorem d_PA_lengthOf_8 : decode b_PA_lengthOf 8 = .ok (.iconst 1, 1) := by decide +kernel
theorem d_PA_lengthOf_9 : decode b_PA_lengthOf 9 = .ok (.isub, 1) := by decide +kernel
theorem d_PA_lengthOf_10 : decode b_PA_lengthOf 10 = .ok (.aload_n 0, 1) := by decide +kernel
theorem d_PA_lengthOf_11 : decode b_PA_lengthOf 11 = .ok (.getfield 15, 3) := by decide +kernel
theorem d_PA_lengthOf_14 : decode b_PA_lengthOf 14 = .ok (.iload_n 1, 1) := by decide +kernel
theorem d_PA_lengthOf_15 : decode b_PA_lengthOf 15 = .ok (.iaload, 1) := by decide +kernel
theorem d_PA_lengthOf_16 : decode b_PA_lengthOf 16 = .ok (.isub, 1) := by decide +kernel
theorem d_PA_lengthOf_17 : decode b_PA_lengthOf 17 = .ok (.ireturn, 1) := by decide +kernel
abbrev w_PA_lengthOf : List Cond := Cond.code y_PA_lengthOf b_PA_lengthOf 2 (some .int) :: ig_T
theorem g_PA_lengthOf : GoodIn ig_T w_PA_lengthOf := ig_T_good (ig_T_mem (List.mem_append_right _ (List.mem_append_left _ (List.mem_of_getElem? (i := 76) rfl))) rfl)
set_option maxHeartbeats 4000000 in
set_option maxRecDepth 100000 in
theorem c_PA_lengthOf (l : Launch) (dC : Nat → ClassId) (dI : Nat → Nat → Nat) (cC cI cZ cL : ClassId) (p0 pb ps : Nat) (pC : Int32) (pS : Nat → Nat) (j : Nat) (sz : Nat) (hr : r_PA_lengthOf pS j) : Met l y_PA_lengthOf w_PA_lengthOf ({ frames := 0, cells := 0, slots := 0, locals := 0 }) (ig_Pc (dC, dI) ig_cl0 [(cC, .char), (cI, .int), (cZ, .boolean), (cL, .long)] [.ref p0, .int (nI j)] [(p0, .inr (ciPA, [.ref pb, .ref ps, .int pC])), (ps, .inl (cI, 21, .inl (fun j => nI (pS j))))] sz) (va_Qi (fun (r : Int32) (u : Unit) => ∃ zr : Nat, r = nI zr ∧ p_PA_lengthOf pS j zr ) (fun u t => va_P (dC, dI) ig_cl0 ((fun (u : Unit) => [(p0, .inr (ciPA, [.ref pb, .ref ps, .int pC])), (ps, .inl (cI, 21, .inl (fun j => nI (pS j))))]) u) t.heap ∧ va_D (va_A [(p0, .inr (ciPA, [.ref pb, .ref ps, .int pC])), (ps, .inl (cI, 21, .inl (fun j => nI (pS j))))] sz) ((fun (u : Unit) => [(p0, .inr (ciPA, [.ref pb, .ref ps, .int pC])), (ps, .inl (cI, 21, .inl (fun j => nI (pS j))))]) u)) (va_A [(p0, .inr (ciPA, [.ref pb, .ref ps, .int pC])), (ps, .inl (cI, 21, .inl (fun j => nI (pS j))))] sz)) 0 0 (va_A [(p0, .inr (ciPA, [.ref pb, .ref ps, .int pC])), (ps, .inl (cI, 21, .inl (fun j => nI (pS j))))] sz) := by
  refine ig_metI (fun (r : Int32) (u : Unit) => ∃ zr : Nat, r = nI zr ∧ p_PA_lengthOf pS j zr ) (fun (u : Unit) => [(p0, .inr (ciPA, [.ref pb, .ref ps, .int pC])), (ps, .inl (cI, 21, .inl (fun j => nI (pS j))))]) (by decide) rfl (Nat.le_of_ble_eq_true rfl) rfl (fun _ _ _ => rfl) ?_
  intro zp ze zs zm zargs zbelow zmeth zc zA zQ hx hb hml hown hts hK hN hA hret
  have hv := t_PA_lengthOf pS j hr 
  unfold v_PA_lengthOf at hv
  refine ig_aload_n hx hb 0 d_PA_lengthOf_0 rfl rfl ?_
  refine ig_get hx hb hts in_PA hown hK 0 rfl rfl 1 (by decide) (hts _ kw_0_64) (fun _ h => h) rfl d_PA_lengthOf_1 ?_
  refine ig_iload_n hx hb 1 d_PA_lengthOf_4 rfl rfl ?_
  refine ig_iconst (v := 1) hx hb d_PA_lengthOf_5 (by decide) ?_
  refine ig_iaddN hx hb j 1 rfl rfl d_PA_lengthOf_6 ?_
  obtain ⟨hc, hv⟩ := hv
  refine ig_iald (x := (nI (pS (j + 1)))) hx hb hK 1 1 rfl rfl (j + 1) rfl hc (by decide) rfl d_PA_lengthOf_7 ?_
  refine ig_iconst (v := 1) hx hb d_PA_lengthOf_8 (by decide) ?_
  obtain ⟨hc, hv⟩ := hv
  refine ig_isubN hx hb (pS (j + 1)) 1 rfl rfl hc d_PA_lengthOf_9 ?_
  refine ig_aload_n hx hb 0 d_PA_lengthOf_10 rfl rfl ?_
  refine ig_get hx hb hts in_PA hown hK 0 rfl rfl 1 (by decide) (hts _ kw_0_64) (fun _ h => h) rfl d_PA_lengthOf_11 ?_
  refine ig_iload_n hx hb 1 d_PA_lengthOf_14 rfl rfl ?_
  obtain ⟨hc, hv⟩ := hv
  refine ig_iald (x := (nI (pS j))) hx hb hK 1 1 rfl rfl j rfl hc (by decide) rfl d_PA_lengthOf_15 ?_
  obtain ⟨hc, hv⟩ := hv
  refine ig_isubN hx hb ((pS (j + 1)) - 1) (pS j) rfl rfl hc d_PA_lengthOf_16 ?_
  exact hret 17 _ (nI (((pS (j + 1)) - 1) - (pS j))) () d_PA_lengthOf_17 ⟨((pS (j + 1)) - 1) - (pS j), rfl, hv⟩
theorem d_MA_startRow_0 : decode b_MA_startRow 0 = .ok (.iconst 0, 1) := by decide +kernel
theorem d_MA_startRow_1 : decode b_MA_startRow 1 = .ok (.istore_n 3, 1) := by decide +kernel
theorem d_MA_startRow_2 : decode b_MA_startRow 2 = .ok (.iload_n 3, 1) := by decide +kernel
theorem d_MA_startRow_3 : decode b_MA_startRow 3 = .ok (.iload_n 1, 1) := by decide +kernel
theorem d_MA_startRow_4 : decode b_MA_startRow 4 = .ok (.if_icmp .gt 22, 3) := by decide +kernel
theorem d_MA_startRow_7 : decode b_MA_startRow 7 = .ok (.aload_n 0, 1) := by decide +kernel
theorem d_MA_startRow_8 : decode b_MA_startRow 8 = .ok (.iload_n 3, 1) := by decide +kernel
theorem d_MA_startRow_9 : decode b_MA_startRow 9 = .ok (.iload_n 3, 1) := by decide +kernel
theorem d_MA_startRow_10 : decode b_MA_startRow 10 = .ok (.iload_n 2, 1) := by decide +kernel
theorem d_MA_startRow_11 : decode b_MA_startRow 11 = .ok (.if_icmp .ne 7, 3) := by decide +kernel
theorem d_MA_startRow_14 : decode b_MA_startRow 14 = .ok (.iconst 1, 1) := by decide +kernel
theorem d_MA_startRow_15 : decode b_MA_startRow 15 = .ok (.goto 4, 3) := by decide +kernel
theorem d_MA_startRow_18 : decode b_MA_startRow 18 = .ok (.iconst 0, 1) := by decide +kernel
theorem d_MA_startRow_19 : decode b_MA_startRow 19 = .ok (.bastore, 1) := by decide +kernel
theorem d_MA_startRow_20 : decode b_MA_startRow 20 = .ok (.iinc 3 1, 3) := by decide +kernel
theorem d_MA_startRow_23 : decode b_MA_startRow 23 = .ok (.goto (-21), 3) := by decide +kernel
theorem d_MA_startRow_26 : decode b_MA_startRow 26 = .ok (.return_, 1) := by decide +kernel
abbrev w_MA_startRow : List Cond := Cond.code y_MA_startRow b_MA_startRow 4 none :: ig_T
theorem g_MA_startRow : GoodIn ig_T w_MA_startRow := ig_T_good (ig_T_mem (List.mem_append_right _ (List.mem_append_left _ (List.mem_of_getElem? (i := 58) rfl))) rfl)
set_option maxHeartbeats 4000000 in
set_option maxRecDepth 100000 in
theorem c_MA_startRow (l : Launch) (dC : Nat → ClassId) (dI : Nat → Nat → Nat) (cC cI cZ cL : ClassId) (qr : Nat)  (zw : Nat → Bool) (zn : Nat) (n : Nat) (f : Nat) (sz : Nat) (hr : r_MA_startRow zw zn n f) : Met l y_MA_startRow w_MA_startRow ({ frames := 0, cells := 0, slots := 0, locals := 0 }) (ig_Pc (dC, dI) ig_cl0 [(cC, .char), (cI, .int), (cZ, .boolean), (cL, .long)] [.ref qr, .int (nI n), .int (nI f)] [(qr, .inl (cZ, zn, .inl (fun j => bI (zw j))))] sz) (va_Qv (fun (u : (Nat → Bool)) => p_MA_startRow zw zn n f u) (fun u t => va_P (dC, dI) ig_cl0 ((fun (u : (Nat → Bool)) => [(qr, .inl (cZ, zn, .inl (fun j => bI (u j))))]) u) t.heap ∧ va_D (va_A [(qr, .inl (cZ, zn, .inl (fun j => bI (zw j))))] sz) ((fun (u : (Nat → Bool)) => [(qr, .inl (cZ, zn, .inl (fun j => bI (u j))))]) u)) (va_A [(qr, .inl (cZ, zn, .inl (fun j => bI (zw j))))] sz)) 0 0 (va_A [(qr, .inl (cZ, zn, .inl (fun j => bI (zw j))))] sz) := by
  refine ig_metV (fun (u : (Nat → Bool)) => p_MA_startRow zw zn n f u) (fun (u : (Nat → Bool)) => [(qr, .inl (cZ, zn, .inl (fun j => bI (u j))))]) (by decide) rfl (Nat.le_of_ble_eq_true rfl) rfl ?_
  intro zp ze zs zm zargs zbelow zmeth zc zA zQ hx hb hml hown hts hK hN hA hret
  obtain ⟨K2, hK2⟩ : ∃ K : Nat → (Nat → Bool) → Prop, K = fun (b : Nat) (zwc : Nat → Bool) => ig_W zp l ze ({ frames := 0, cells := 0, slots := 0, locals := 0 }) zs zm zargs zbelow zmeth zc (dC, dI) ig_cl0 zA zs.heap 4 0 0 zQ 2 [(0, .ref qr), (1, .int (nI n)), (2, .int (nI f)), (3, .int (nI b))] [] [(qr, .inl (cZ, zn, .inl (fun j => bI (zwc j))))] := ⟨_, rfl⟩
  have j19 : ∀ (b : Nat) (s0 : Bool) (s1 : Nat) (zwc : Nat → Bool), v_MA_startRow_19 zw zn n f K2 (p_MA_startRow zw zn n f) b s0 s1 zwc → ig_W zp l ze ({ frames := 0, cells := 0, slots := 0, locals := 0 }) zs zm zargs zbelow zmeth zc (dC, dI) ig_cl0 zA zs.heap 4 0 0 zQ 19 [(0, .ref qr), (1, .int (nI n)), (2, .int (nI f)), (3, .int (nI b))] [.int (bI s0), .int (nI s1), .ref qr] [(qr, .inl (cZ, zn, .inl (fun j => bI (zwc j))))] := by
    intro b s0 s1 zwc hv
    unfold v_MA_startRow_19 at hv
    obtain ⟨hc, hv⟩ := hv
    obtain ⟨hz, hv⟩ := hv
    refine ig_zast (f' := fun j => bI ((updB zwc s1 s0) j)) (ws' := [(qr, .inl (cZ, zn, .inl (fun j => bI ((updB zwc s1 s0) j))))]) hx hb hK 0 2 rfl rfl s1 rfl hc hz (bI_nar s0) (upd_B zwc s1 s0) d_MA_startRow_19 rfl ?_
    refine ig_iinc (v := (nI (b + 1))) (lv' := [(3, .int (nI (b + 1))), (0, .ref qr), (1, .int (nI n)), (2, .int (nI f))]) hx hb 3 d_MA_startRow_20 rfl (ig_inc b 1 (by decide)) (by decide) rfl ?_
    refine ig_goto (tgt := 2) hx hb d_MA_startRow_23 (by decide) ?_
    refine ig_lv (lv' := [(0, .ref qr), (1, .int (nI n)), (2, .int (nI f)), (3, .int (nI (b + 1)))]) [1, 2, 3, 0] rfl ?_
    rw [hK2] at hv
    exact hv
  have k2 : ∀ (b : Nat) (zwc : Nat → Bool), v_MA_startRow_2 zw zn n f K2 (p_MA_startRow zw zn n f) b zwc → K2 b zwc := by
    intro b zwc hv
    unfold v_MA_startRow_2 at hv
    rw [hK2]
    show ig_W zp l ze ({ frames := 0, cells := 0, slots := 0, locals := 0 }) zs zm zargs zbelow zmeth zc (dC, dI) ig_cl0 zA zs.heap 4 0 0 zQ 2 [(0, .ref qr), (1, .int (nI n)), (2, .int (nI f)), (3, .int (nI b))] [] [(qr, .inl (cZ, zn, .inl (fun j => bI (zwc j))))]
    refine ig_iload_n hx hb 3 d_MA_startRow_2 rfl rfl ?_
    refine ig_iload_n hx hb 1 d_MA_startRow_3 rfl rfl ?_
    obtain ⟨h1, hv⟩ := hv
    obtain ⟨h2, hv⟩ := hv
    refine ig_icmp_gtN (tgt := 26) hx hb b n rfl rfl d_MA_startRow_4 (by decide) h1 h2 (fun h => ?_) (fun h => ?_)
    · have hv := hv.1 h
      exact hret 26 _ zwc d_MA_startRow_26 hv
    · have hv := hv.2 h
      refine ig_aload_n hx hb 0 d_MA_startRow_7 rfl rfl ?_
      refine ig_iload_n hx hb 3 d_MA_startRow_8 rfl rfl ?_
      refine ig_iload_n hx hb 3 d_MA_startRow_9 rfl rfl ?_
      refine ig_iload_n hx hb 2 d_MA_startRow_10 rfl rfl ?_
      obtain ⟨h1, hv⟩ := hv
      obtain ⟨h2, hv⟩ := hv
      refine ig_icmp_neN (tgt := 18) hx hb b f rfl rfl d_MA_startRow_11 (by decide) h1 h2 (fun h => ?_) (fun h => ?_)
      · have hv := hv.1 h
        refine ig_iconst (v := 0) hx hb d_MA_startRow_18 (by decide) ?_
        refine ig_lv (lv' := [(0, .ref qr), (1, .int (nI n)), (2, .int (nI f)), (3, .int (nI b))]) [0, 1, 2, 3] rfl ?_
        exact j19 _ _ _ _ hv
      · have hv := hv.2 h
        refine ig_iconst (v := 1) hx hb d_MA_startRow_14 (by decide) ?_
        refine ig_goto (tgt := 19) hx hb d_MA_startRow_15 (by decide) ?_
        refine ig_lv (lv' := [(0, .ref qr), (1, .int (nI n)), (2, .int (nI f)), (3, .int (nI b))]) [0, 1, 2, 3] rfl ?_
        exact j19 _ _ _ _ hv
  have hv := t_MA_startRow zw zn n f hr K2 k2
  unfold v_MA_startRow at hv
  refine ig_iconst (v := 0) hx hb d_MA_startRow_0 (by decide) ?_
  refine ig_istore_n (lv' := [(3, .int 0), (0, .ref qr), (1, .int (nI n)), (2, .int (nI f))]) hx hb d_MA_startRow_1 rfl (by decide) rfl ?_
  refine ig_lv (lv' := [(0, .ref qr), (1, .int (nI n)), (2, .int (nI f)), (3, .int 0)]) [1, 2, 3, 0] rfl ?_
  rw [hK2] at hv
  exact hv
theorem d_MA_spread_0 : decode b_MA_spread 0 = .ok (.iconst 1, 1) := by decide +kernel
theorem d_MA_spread_1 : decode b_MA_spread 1 = .ok (.istore_n 2, 1) := by decide +kernel
theorem d_MA_spread_2 : decode b_MA_spread 2 = .ok (.iload_n 2, 1) := by decide +kernel
theorem d_MA_spread_3 : decode b_MA_spread 3 = .ok (.iload_n 1, 1) := by decide +kernel
theorem d_MA_spread_4 : decode b_MA_spread 4 = .ok (.if_icmp .gt 31, 3) := by decide +kernel
theorem d_MA_spread_7 : decode b_MA_spread 7 = .ok (.aload_n 0, 1) := by decide +kernel
theorem d_MA_spread_8 : decode b_MA_spread 8 = .ok (.iload_n 2, 1) := by decide +kernel
theorem d_MA_spread_9 : decode b_MA_spread 9 = .ok (.aload_n 0, 1) := by decide +kernel
theorem d_MA_spread_10 : decode b_MA_spread 10 = .ok (.iload_n 2, 1) := by decide +kernel
theorem d_MA_spread_11 : decode b_MA_spread 11 = .ok (.baload, 1) := by decide +kernel
theorem d_MA_spread_12 : decode b_MA_spread 12 = .ok (.ifCond .ne 11, 3) := by decide +kernel
theorem d_MA_spread_15 : decode b_MA_spread 15 = .ok (.aload_n 0, 1) := by decide +kernel
theorem d_MA_spread_16 : decode b_MA_spread 16 = .ok (.iload_n 2, 1) := by decide +kernel
theorem d_MA_spread_17 : decode b_MA_spread 17 = .ok (.iconst 1, 1) := by decide +kernel
theorem d_MA_spread_18 : decode b_MA_spread 18 = .ok (.isub, 1) := by decide +kernel
theorem d_MA_spread_19 : decode b_MA_spread 19 = .ok (.baload, 1) := by decide +kernel
theorem d_MA_spread_20 : decode b_MA_spread 20 = .ok (.ifCond .eq 7, 3) := by decide +kernel
theorem d_MA_spread_23 : decode b_MA_spread 23 = .ok (.iconst 1, 1) := by decide +kernel
theorem d_MA_spread_24 : decode b_MA_spread 24 = .ok (.goto 4, 3) := by decide +kernel
theorem d_MA_spread_27 : decode b_MA_spread 27 = .ok (.iconst 0, 1) := by decide +kernel
theorem d_MA_spread_28 : decode b_MA_spread 28 = .ok (.bastore, 1) := by decide +kernel
theorem d_MA_spread_29 : decode b_MA_spread 29 = .ok (.iinc 2 1, 3) := by decide +kernel
theorem d_MA_spread_32 : decode b_MA_spread 32 = .ok (.goto (-30), 3) := by decide +kernel
theorem d_MA_spread_35 : decode b_MA_spread 35 = .ok (.return_, 1) := by decide +kernel
abbrev w_MA_spread : List Cond := Cond.code y_MA_spread b_MA_spread 3 none :: ig_T
theorem g_MA_spread : GoodIn ig_T w_MA_spread := ig_T_good (ig_T_mem (List.mem_append_right _ (List.mem_append_left _ (List.mem_of_getElem? (i := 64) rfl))) rfl)
set_option maxHeartbeats 4000000 in
set_option maxRecDepth 100000 in
theorem c_MA_spread (l : Launch) (dC : Nat → ClassId) (dI : Nat → Nat → Nat) (cC cI cZ cL : ClassId) (qr : Nat)  (zw : Nat → Bool) (zn : Nat) (n : Nat) (sz : Nat) (hr : r_MA_spread zw zn n) : Met l y_MA_spread w_MA_spread ({ frames := 0, cells := 0, slots := 0, locals := 0 }) (ig_Pc (dC, dI) ig_cl0 [(cC, .char), (cI, .int), (cZ, .boolean), (cL, .long)] [.ref qr, .int (nI n)] [(qr, .inl (cZ, zn, .inl (fun j => bI (zw j))))] sz) (va_Qv (fun (u : (Nat → Bool)) => p_MA_spread zw zn n u) (fun u t => va_P (dC, dI) ig_cl0 ((fun (u : (Nat → Bool)) => [(qr, .inl (cZ, zn, .inl (fun j => bI (u j))))]) u) t.heap ∧ va_D (va_A [(qr, .inl (cZ, zn, .inl (fun j => bI (zw j))))] sz) ((fun (u : (Nat → Bool)) => [(qr, .inl (cZ, zn, .inl (fun j => bI (u j))))]) u)) (va_A [(qr, .inl (cZ, zn, .inl (fun j => bI (zw j))))] sz)) 0 0 (va_A [(qr, .inl (cZ, zn, .inl (fun j => bI (zw j))))] sz) := by
  refine ig_metV (fun (u : (Nat → Bool)) => p_MA_spread zw zn n u) (fun (u : (Nat → Bool)) => [(qr, .inl (cZ, zn, .inl (fun j => bI (u j))))]) (by decide) rfl (Nat.le_of_ble_eq_true rfl) rfl ?_
  intro zp ze zs zm zargs zbelow zmeth zc zA zQ hx hb hml hown hts hK hN hA hret
  obtain ⟨K2, hK2⟩ : ∃ K : Nat → (Nat → Bool) → Prop, K = fun (b : Nat) (zwc : Nat → Bool) => ig_W zp l ze ({ frames := 0, cells := 0, slots := 0, locals := 0 }) zs zm zargs zbelow zmeth zc (dC, dI) ig_cl0 zA zs.heap 3 0 0 zQ 2 [(0, .ref qr), (1, .int (nI n)), (2, .int (nI b))] [] [(qr, .inl (cZ, zn, .inl (fun j => bI (zwc j))))] := ⟨_, rfl⟩
  have j28 : ∀ (b : Nat) (s0 : Bool) (s1 : Nat) (zwc : Nat → Bool), v_MA_spread_28 zw zn n K2 (p_MA_spread zw zn n) b s0 s1 zwc → ig_W zp l ze ({ frames := 0, cells := 0, slots := 0, locals := 0 }) zs zm zargs zbelow zmeth zc (dC, dI) ig_cl0 zA zs.heap 3 0 0 zQ 28 [(0, .ref qr), (1, .int (nI n)), (2, .int (nI b))] [.int (bI s0), .int (nI s1), .ref qr] [(qr, .inl (cZ, zn, .inl (fun j => bI (zwc j))))] := by
    intro b s0 s1 zwc hv
    unfold v_MA_spread_28 at hv
    obtain ⟨hc, hv⟩ := hv
    obtain ⟨hz, hv⟩ := hv
    refine ig_zast (f' := fun j => bI ((updB zwc s1 s0) j)) (ws' := [(qr, .inl (cZ, zn, .inl (fun j => bI ((updB zwc s1 s0) j))))]) hx hb hK 0 2 rfl rfl s1 rfl hc hz (bI_nar s0) (upd_B zwc s1 s0) d_MA_spread_28 rfl ?_
    refine ig_iinc (v := (nI (b + 1))) (lv' := [(2, .int (nI (b + 1))), (0, .ref qr), (1, .int (nI n))]) hx hb 2 d_MA_spread_29 rfl (ig_inc b 1 (by decide)) (by decide) rfl ?_
    refine ig_goto (tgt := 2) hx hb d_MA_spread_32 (by decide) ?_
    refine ig_lv (lv' := [(0, .ref qr), (1, .int (nI n)), (2, .int (nI (b + 1)))]) [1, 2, 0] rfl ?_
    rw [hK2] at hv
    exact hv
  have j23 : ∀ (b : Nat) (s0 : Nat) (zwc : Nat → Bool), v_MA_spread_23 zw zn n K2 (p_MA_spread zw zn n) b s0 zwc → ig_W zp l ze ({ frames := 0, cells := 0, slots := 0, locals := 0 }) zs zm zargs zbelow zmeth zc (dC, dI) ig_cl0 zA zs.heap 3 0 0 zQ 23 [(0, .ref qr), (1, .int (nI n)), (2, .int (nI b))] [.int (nI s0), .ref qr] [(qr, .inl (cZ, zn, .inl (fun j => bI (zwc j))))] := by
    intro b s0 zwc hv
    unfold v_MA_spread_23 at hv
    refine ig_iconst (v := 1) hx hb d_MA_spread_23 (by decide) ?_
    refine ig_goto (tgt := 28) hx hb d_MA_spread_24 (by decide) ?_
    refine ig_lv (lv' := [(0, .ref qr), (1, .int (nI n)), (2, .int (nI b))]) [0, 1, 2] rfl ?_
    exact j28 _ _ _ _ hv
  have k2 : ∀ (b : Nat) (zwc : Nat → Bool), v_MA_spread_2 zw zn n K2 (p_MA_spread zw zn n) b zwc → K2 b zwc := by
    intro b zwc hv
    unfold v_MA_spread_2 at hv
    rw [hK2]
    show ig_W zp l ze ({ frames := 0, cells := 0, slots := 0, locals := 0 }) zs zm zargs zbelow zmeth zc (dC, dI) ig_cl0 zA zs.heap 3 0 0 zQ 2 [(0, .ref qr), (1, .int (nI n)), (2, .int (nI b))] [] [(qr, .inl (cZ, zn, .inl (fun j => bI (zwc j))))]
    refine ig_iload_n hx hb 2 d_MA_spread_2 rfl rfl ?_
    refine ig_iload_n hx hb 1 d_MA_spread_3 rfl rfl ?_
    obtain ⟨h1, hv⟩ := hv
    obtain ⟨h2, hv⟩ := hv
    refine ig_icmp_gtN (tgt := 35) hx hb b n rfl rfl d_MA_spread_4 (by decide) h1 h2 (fun h => ?_) (fun h => ?_)
    · have hv := hv.1 h
      exact hret 35 _ zwc d_MA_spread_35 hv
    · have hv := hv.2 h
      refine ig_aload_n hx hb 0 d_MA_spread_7 rfl rfl ?_
      refine ig_iload_n hx hb 2 d_MA_spread_8 rfl rfl ?_
      refine ig_aload_n hx hb 0 d_MA_spread_9 rfl rfl ?_
      refine ig_iload_n hx hb 2 d_MA_spread_10 rfl rfl ?_
      obtain ⟨hc, hv⟩ := hv
      obtain ⟨hz, hv⟩ := hv
      refine ig_zald (x := (bI (zwc b))) hx hb hK 0 2 rfl rfl b rfl hc hz rfl d_MA_spread_11 ?_
      refine ig_if_neB (tgt := 23) hx hb (zwc b) rfl d_MA_spread_12 (by decide) (fun h => ?_) (fun h => ?_)
      · have hv := hv.1 h
        refine ig_lv (lv' := [(0, .ref qr), (1, .int (nI n)), (2, .int (nI b))]) [0, 1, 2] rfl ?_
        exact j23 _ _ _ hv
      · have hv := hv.2 h
        refine ig_aload_n hx hb 0 d_MA_spread_15 rfl rfl ?_
        refine ig_iload_n hx hb 2 d_MA_spread_16 rfl rfl ?_
        refine ig_iconst (v := 1) hx hb d_MA_spread_17 (by decide) ?_
        obtain ⟨hc, hv⟩ := hv
        refine ig_isubN hx hb b 1 rfl rfl hc d_MA_spread_18 ?_
        obtain ⟨hc, hv⟩ := hv
        obtain ⟨hz, hv⟩ := hv
        refine ig_zald (x := (bI (zwc (b - 1)))) hx hb hK 0 2 rfl rfl (b - 1) rfl hc hz rfl d_MA_spread_19 ?_
        refine ig_if_eqB (tgt := 27) hx hb (zwc (b - 1)) rfl d_MA_spread_20 (by decide) (fun h => ?_) (fun h => ?_)
        · have hv := hv.1 h
          refine ig_iconst (v := 0) hx hb d_MA_spread_27 (by decide) ?_
          refine ig_lv (lv' := [(0, .ref qr), (1, .int (nI n)), (2, .int (nI b))]) [0, 1, 2] rfl ?_
          exact j28 _ _ _ _ hv
        · have hv := hv.2 h
          refine ig_lv (lv' := [(0, .ref qr), (1, .int (nI n)), (2, .int (nI b))]) [0, 1, 2] rfl ?_
          exact j23 _ _ _ hv
  have hv := t_MA_spread zw zn n hr K2 k2
  unfold v_MA_spread at hv
  refine ig_iconst (v := 1) hx hb d_MA_spread_0 (by decide) ?_
  refine ig_istore_n (lv' := [(2, .int 1), (0, .ref qr), (1, .int (nI n))]) hx hb d_MA_spread_1 rfl (by decide) rfl ?_
  refine ig_lv (lv' := [(0, .ref qr), (1, .int (nI n)), (2, .int 1)]) [1, 2, 0] rfl ?_
  rw [hK2] at hv
  exact hv
theorem d_MA_isDeep_0 : decode b_MA_isDeep 0 = .ok (.iload_n 2, 1) := by decide +kernel
theorem d_MA_isDeep_1 : decode b_MA_isDeep 1 = .ok (.iload_n 1, 1) := by decide +kernel
theorem d_MA_isDeep_2 : decode b_MA_isDeep 2 = .ok (.isub, 1) := by decide +kernel
theorem d_MA_isDeep_3 : decode b_MA_isDeep 3 = .ok (.iconst 2, 1) := by decide +kernel
theorem d_MA_isDeep_4 : decode b_MA_isDeep 4 = .ok (.if_icmp .ne 25, 3) := by decide +kernel
theorem d_MA_isDeep_7 : decode b_MA_isDeep 7 = .ok (.aload_n 0, 1) := by decide +kernel
theorem d_MA_isDeep_8 : decode b_MA_isDeep 8 = .ok (.iload_n 1, 1) := by decide +kernel
theorem d_MA_isDeep_9 : decode b_MA_isDeep 9 = .ok (.caload, 1) := by decide +kernel
theorem d_MA_isDeep_10 : decode b_MA_isDeep 10 = .ok (.bipush 42, 2) := by decide +kernel
theorem d_MA_isDeep_12 : decode b_MA_isDeep 12 = .ok (.if_icmp .ne 17, 3) := by decide +kernel
theorem d_MA_isDeep_15 : decode b_MA_isDeep 15 = .ok (.aload_n 0, 1) := by decide +kernel
theorem d_MA_isDeep_16 : decode b_MA_isDeep 16 = .ok (.iload_n 1, 1) := by decide +kernel
theorem d_MA_isDeep_17 : decode b_MA_isDeep 17 = .ok (.iconst 1, 1) := by decide +kernel
theorem d_MA_isDeep_18 : decode b_MA_isDeep 18 = .ok (.iadd, 1) := by decide +kernel
theorem d_MA_isDeep_19 : decode b_MA_isDeep 19 = .ok (.caload, 1) := by decide +kernel
theorem d_MA_isDeep_20 : decode b_MA_isDeep 20 = .ok (.bipush 42, 2) := by decide +kernel
theorem d_MA_isDeep_22 : decode b_MA_isDeep 22 = .ok (.if_icmp .ne 7, 3) := by decide +kernel
theorem d_MA_isDeep_25 : decode b_MA_isDeep 25 = .ok (.iconst 1, 1) := by decide +kernel
theorem d_MA_isDeep_26 : decode b_MA_isDeep 26 = .ok (.goto 4, 3) := by decide +kernel
theorem d_MA_isDeep_29 : decode b_MA_isDeep 29 = .ok (.iconst 0, 1) := by decide +kernel
theorem d_MA_isDeep_30 : decode b_MA_isDeep 30 = .ok (.ireturn, 1) := by decide +kernel
abbrev w_MA_isDeep : List Cond := Cond.code y_MA_isDeep b_MA_isDeep 3 (some .boolean) :: ig_T
theorem g_MA_isDeep : GoodIn ig_T w_MA_isDeep := ig_T_good (ig_T_mem (List.mem_append_right _ (List.mem_append_left _ (List.mem_of_getElem? (i := 61) rfl))) rfl)
set_option maxHeartbeats 4000000 in
set_option maxRecDepth 100000 in
theorem c_MA_isDeep (l : Launch) (dC : Nat → ClassId) (dI : Nat → Nat → Nat) (cC cI cZ cL : ClassId) (qt : Nat)  (tT : Nat → Int32) (f : Nat) (a : Nat) (sz : Nat) (hr : r_MA_isDeep tT f a) : Met l y_MA_isDeep w_MA_isDeep ({ frames := 0, cells := 0, slots := 0, locals := 0 }) (ig_Pc (dC, dI) ig_cl0 [(cC, .char), (cI, .int), (cZ, .boolean), (cL, .long)] [.ref qt, .int (nI f), .int (nI a)] [(qt, .inl (cC, 1000, .inl tT))] sz) (va_Qi (fun (r : Int32) (u : Unit) => ∃ zr : Bool, r = bI zr ∧ p_MA_isDeep tT f a zr ) (fun u t => va_P (dC, dI) ig_cl0 ((fun (u : Unit) => [(qt, .inl (cC, 1000, .inl tT))]) u) t.heap ∧ va_D (va_A [(qt, .inl (cC, 1000, .inl tT))] sz) ((fun (u : Unit) => [(qt, .inl (cC, 1000, .inl tT))]) u)) (va_A [(qt, .inl (cC, 1000, .inl tT))] sz)) 0 0 (va_A [(qt, .inl (cC, 1000, .inl tT))] sz) := by
  refine ig_metI (fun (r : Int32) (u : Unit) => ∃ zr : Bool, r = bI zr ∧ p_MA_isDeep tT f a zr ) (fun (u : Unit) => [(qt, .inl (cC, 1000, .inl tT))]) (by decide) rfl (Nat.le_of_ble_eq_true rfl) rfl (by rintro r u ⟨b, rfl, -⟩; exact bI_ret b) ?_
  intro zp ze zs zm zargs zbelow zmeth zc zA zQ hx hb hml hown hts hK hN hA hret
  have hv := t_MA_isDeep tT f a hr 
  unfold v_MA_isDeep at hv
  refine ig_iload_n hx hb 2 d_MA_isDeep_0 rfl rfl ?_
  refine ig_iload_n hx hb 1 d_MA_isDeep_1 rfl rfl ?_
  obtain ⟨hc, hv⟩ := hv
  refine ig_isubN hx hb a f rfl rfl hc d_MA_isDeep_2 ?_
  refine ig_iconst (v := 2) hx hb d_MA_isDeep_3 (by decide) ?_
  obtain ⟨h1, hv⟩ := hv
  refine ig_icmp_neN (tgt := 29) hx hb (a - f) 2 rfl rfl d_MA_isDeep_4 (by decide) h1 (by decide) (fun h => ?_) (fun h => ?_)
  · have hv := hv.1 h
    refine ig_iconst (v := 0) hx hb d_MA_isDeep_29 (by decide) ?_
    exact hret 30 _ 0 () d_MA_isDeep_30 ⟨false, rfl, hv⟩
  · have hv := hv.2 h
    refine ig_aload_n hx hb 0 d_MA_isDeep_7 rfl rfl ?_
    refine ig_iload_n hx hb 1 d_MA_isDeep_8 rfl rfl ?_
    obtain ⟨hc, hv⟩ := hv
    refine ig_cald (x := (tT f)) hx hb hK 0 0 rfl rfl f rfl hc (by decide) rfl d_MA_isDeep_9 ?_
    refine ig_bipush (v := 42) hx hb d_MA_isDeep_10 (by decide) ?_
    refine ig_icmp_ne (tgt := 29) hx hb d_MA_isDeep_12 (by decide) (fun h => ?_) (fun h => ?_)
    · have hv := hv.1 h
      refine ig_iconst (v := 0) hx hb d_MA_isDeep_29 (by decide) ?_
      exact hret 30 _ 0 () d_MA_isDeep_30 ⟨false, rfl, hv⟩
    · have hv := hv.2 h
      refine ig_aload_n hx hb 0 d_MA_isDeep_15 rfl rfl ?_
      refine ig_iload_n hx hb 1 d_MA_isDeep_16 rfl rfl ?_
      refine ig_iconst (v := 1) hx hb d_MA_isDeep_17 (by decide) ?_
      refine ig_iaddN hx hb f 1 rfl rfl d_MA_isDeep_18 ?_
      obtain ⟨hc, hv⟩ := hv
      refine ig_cald (x := (tT (f + 1))) hx hb hK 0 0 rfl rfl (f + 1) rfl hc (by decide) rfl d_MA_isDeep_19 ?_
      refine ig_bipush (v := 42) hx hb d_MA_isDeep_20 (by decide) ?_
      refine ig_icmp_ne (tgt := 29) hx hb d_MA_isDeep_22 (by decide) (fun h => ?_) (fun h => ?_)
      · have hv := hv.1 h
        refine ig_iconst (v := 0) hx hb d_MA_isDeep_29 (by decide) ?_
        exact hret 30 _ 0 () d_MA_isDeep_30 ⟨false, rfl, hv⟩
      · have hv := hv.2 h
        refine ig_iconst (v := 1) hx hb d_MA_isDeep_25 (by decide) ?_
        refine ig_goto (tgt := 30) hx hb d_MA_isDeep_26 (by decide) ?_
        exact hret 30 _ 1 () d_MA_isDeep_30 ⟨true, rfl, hv⟩
end
section
def r_IT_take (tT : Nat → Int32) (k : Nat) (z : Nat) (x : Int32) (a : Nat) : Prop := k < a ∧ a ≤ 1000 ∧ z + 1 ≤ a ∧ sp_end tT a k = z + 1 ∧ ¬ tT k = 42
def p_IT_take (tT : Nat → Int32) (k : Nat) (z : Nat) (x : Int32) (a : Nat) (r : Bool) : Prop := r = (sp_take tT a k x)
def v_IT_take_56 (tT : Nat → Int32) (k : Nat) (z : Nat) (x : Int32) (a : Nat) (K77 : Bool → Bool → Nat → Prop) (Q : Bool → Prop) (s0 : Bool) : Prop := (s0 = false → K77 s0 false (k + 1)) ∧ (s0 = true → K77 s0 false (k + 2))
def v_IT_take_51 (tT : Nat → Int32) (k : Nat) (z : Nat) (x : Int32) (a : Nat) (K77 : Bool → Bool → Nat → Prop) (Q : Bool → Prop) : Prop := v_IT_take_56 tT k z x a K77 Q true
def v_IT_take_151 (tT : Nat → Int32) (k : Nat) (z : Nat) (x : Int32) (a : Nat) (K77 : Bool → Bool → Nat → Prop) (Q : Bool → Prop) (tu : Bool) (fo : Bool) (b : Nat) (lo : Int32) (hi : Int32) : Prop := (x < lo → K77 tu fo (b + 1)) ∧ (¬ x < lo → (hi < x → K77 tu fo (b + 1)) ∧ (¬ hi < x → K77 tu true (b + 1)))
def v_IT_take_142 (tT : Nat → Int32) (k : Nat) (z : Nat) (x : Int32) (a : Nat) (K77 : Bool → Bool → Nat → Prop) (Q : Bool → Prop) (tu : Bool) (fo : Bool) (lo : Int32) (s0 : Nat) (s1 : Nat) : Prop := (s1 + s0 < 1000) ∧ (v_IT_take_151 tT k z x a K77 Q tu fo (s1 + s0) lo (tT (s1 + s0)))
def v_IT_take_95 (tT : Nat → Int32) (k : Nat) (z : Nat) (x : Int32) (a : Nat) (K77 : Bool → Bool → Nat → Prop) (Q : Bool → Prop) (tu : Bool) (fo : Bool) (b : Nat) : Prop := (b < 1000) ∧ ((b + 2 < 2147483648) ∧ ((z < 2147483648) ∧ ((z ≤ b + 2 → v_IT_take_151 tT k z x a K77 Q tu fo b (tT b) (tT b)) ∧ (¬ z ≤ b + 2 → (b + 1 < 1000) ∧ ((¬ (tT (b + 1)) = 45 → v_IT_take_151 tT k z x a K77 Q tu fo b (tT b) (tT b)) ∧ ((tT (b + 1)) = 45 → (b + 2 < 1000) ∧ ((¬ (tT (b + 2)) = 92 → v_IT_take_142 tT k z x a K77 Q tu fo (tT b) 2 b) ∧ ((tT (b + 2)) = 92 → v_IT_take_142 tT k z x a K77 Q tu fo (tT b) 3 b))))))))
def v_IT_take_77 (tT : Nat → Int32) (k : Nat) (z : Nat) (x : Int32) (a : Nat) (K77 : Bool → Bool → Nat → Prop) (Q : Bool → Prop) (tu : Bool) (fo : Bool) (b : Nat) : Prop := (b < 2147483648) ∧ ((z < 2147483648) ∧ ((z ≤ b → (fo = tu → Q false) ∧ (¬ fo = tu → Q true)) ∧ (¬ z ≤ b → (b < 1000) ∧ ((¬ (tT b) = 92 → v_IT_take_95 tT k z x a K77 Q tu fo b) ∧ ((tT b) = 92 → v_IT_take_95 tT k z x a K77 Q tu fo (b + 1))))))
def v_IT_take (tT : Nat → Int32) (k : Nat) (z : Nat) (x : Int32) (a : Nat) (K77 : Bool → Bool → Nat → Prop) (Q : Bool → Prop) : Prop := (k < 1000) ∧ ((¬ (tT k) = 63 → (k < 1000) ∧ (((tT k) = 91 → (k + 1 < 1000) ∧ (((tT (k + 1)) = 33 → v_IT_take_51 tT k z x a K77 Q) ∧ (¬ (tT (k + 1)) = 33 → (k + 1 < 1000) ∧ ((¬ (tT (k + 1)) = 94 → v_IT_take_56 tT k z x a K77 Q false) ∧ ((tT (k + 1)) = 94 → v_IT_take_51 tT k z x a K77 Q))))) ∧ (¬ (tT k) = 91 → (z < 1000) ∧ ((¬ (tT z) = x → Q false) ∧ ((tT z) = x → Q true))))) ∧ ((tT k) = 63 → Q true))
theorem t_IT_take (tT : Nat → Int32) (k : Nat) (z : Nat) (x : Int32) (a : Nat) (hr : r_IT_take tT k z x a) (K77 : Bool → Bool → Nat → Prop) (k77 : ∀ tu fo b, v_IT_take_77 tT k z x a K77 (p_IT_take tT k z x a) tu fo b → K77 tu fo b) : v_IT_take tT k z x a K77 (p_IT_take tT k z x a) := by
  obtain ⟨h1, h2, h3, h4, h5⟩ := hr
  have key : tT k = 91 → ∀ d b fl fo, z - b ≤ d → sp_se tT a b fl = z + 1 → (fo || sp_has tT a x b fl) = sp_has tT a x (sp_sf tT a k) true → K77 (decide (sp_sf tT a k = k + 2)) fo b := by
    intro h91 d
    induction d with
    | zero =>
      intro b fl fo hd hs hH
      obtain ⟨g1, g2, -⟩ := sp_set1 hs h3
      refine k77 _ fo b ?_
      unfold v_IT_take_77
      have hbz : b = z := by omega
      rw [g2 hbz x, Bool.or_false] at hH
      have hp : ∀ r, r = (fo != decide (sp_sf tT a k = k + 2)) → p_IT_take tT k z x a r := by
        intro r hr
        rw [p_IT_take, sp_take, if_neg (by rw [h91]; decide), if_pos h91, ← hH, hr]
      refine ⟨by omega, by omega, fun _ => ⟨fun h => hp _ ?_, fun h => hp _ ?_⟩, fun h => by omega⟩
      · rw [← h]; cases fo <;> rfl
      · cases fo <;> cases hq : decide (sp_sf tT a k = k + 2) <;> first | rfl | (rw [hq] at h; exact absurd rfl h)
    | succ d ih =>
      intro b fl fo hd hs hH
      obtain ⟨g1, g2, g3⟩ := sp_set1 hs h3
      by_cases hbz : b = z
      · refine k77 _ fo b ?_
        unfold v_IT_take_77
        rw [g2 hbz x, Bool.or_false] at hH
        have hp : ∀ r, r = (fo != decide (sp_sf tT a k = k + 2)) → p_IT_take tT k z x a r := by
          intro r hr
          rw [p_IT_take, sp_take, if_neg (by rw [h91]; decide), if_pos h91, ← hH, hr]
        refine ⟨by omega, by omega, fun _ => ⟨fun h => hp _ ?_, fun h => hp _ ?_⟩, fun h => by omega⟩
        · rw [← h]; cases fo <;> rfl
        · cases fo <;> cases hq : decide (sp_sf tT a k = k + 2) <;> first | rfl | (rw [hq] at h; exact absurd rfl h)
      · have hlt : b < z := by omega
        obtain ⟨-, gs, gn⟩ := g3 hlt
        have hrow := sp_set2 hs h3 hlt
        have hgt := sp_nx_gt tT a b
        rw [sp_has1 x hs h3 hlt] at hH
        have nx : ∀ c, c + 1 = sp_nx tT a b → v_IT_take_151 tT k z x a K77 (p_IT_take tT k z x a) (decide (sp_sf tT a k = k + 2)) fo c (sp_byte tT b) (sp_hi tT a b) := by
          intro c hc
          unfold v_IT_take_151
          rw [hc]
          refine ⟨fun h => ?_, fun h => ⟨fun h' => ?_, fun h' => ?_⟩⟩
          · refine ih _ false fo (by omega) gs ?_
            rw [← hH, decide_eq_false (fun q => absurd q.1 (Int32.not_le.mpr h)), Bool.false_or]
          · refine ih _ false fo (by omega) gs ?_
            rw [← hH, decide_eq_false (fun q => absurd q.2 (Int32.not_le.mpr h')), Bool.false_or]
          · refine ih _ false true (by omega) gs ?_
            rw [← hH, decide_eq_true ⟨Int32.not_lt.mp h, Int32.not_lt.mp h'⟩]
            simp
        have body : ∀ q, q + 1 = sp_tok tT b → tT q = sp_byte tT b → v_IT_take_95 tT k z x a K77 (p_IT_take tT k z x a) (decide (sp_sf tT a k = k + 2)) fo q := by
          intro q hq hby
          have hqz : q + 1 ≤ z := by
            have := sp_tok_nx (t := tT) (e := a) (a := b)
            omega
          have stop : ¬ sp_row tT a (sp_tok tT b) = true → v_IT_take_151 tT k z x a K77 (p_IT_take tT k z x a) (decide (sp_sf tT a k = k + 2)) fo q (tT q) (tT q) := by
            intro hr
            have e1 : sp_hi tT a b = tT q := by rw [sp_hi, if_neg hr, hby]
            have e2 := nx q (by rw [sp_nx, if_neg hr]; exact hq)
            rw [e1, ← hby] at e2
            exact e2
          have go : sp_row tT a (sp_tok tT b) = true → ∀ w, w + q + 1 = sp_tok tT (q + 2) → w ≤ 3 → tT (q + w) = sp_byte tT (q + 2) → v_IT_take_142 tT k z x a K77 (p_IT_take tT k z x a) (decide (sp_sf tT a k = k + 2)) fo (tT q) w q := by
            intro hr w hw hw3 hbw
            have e3 : sp_nx tT a b = sp_tok tT (q + 2) := by rw [sp_nx, if_pos hr, ← hq]
            unfold v_IT_take_142
            refine ⟨by omega, ?_⟩
            have e1 : sp_hi tT a b = tT (q + w) := by rw [sp_hi, if_pos hr, ← hq, hbw]
            have e2 := nx (q + w) (by omega)
            rw [e1, ← hby] at e2
            exact e2
          unfold v_IT_take_95
          refine ⟨by omega, by omega, by omega, fun h => stop (fun hr => ?_), fun h => ⟨by omega, fun h45 => stop (fun hr => ?_), fun h45 => ?_⟩⟩
          · have := (hrow.mpr hr).1
            omega
          · have := (hrow.mpr hr).2
            rw [← hq] at this
            exact h45 this
          · have hr := hrow.mp ⟨by omega, by rw [← hq]; exact h45⟩
            refine ⟨by omega, fun h92 => go hr 2 ?_ (by omega) ?_, fun h92 => go hr 3 ?_ (by omega) ?_⟩
            · rw [sp_tok, if_neg h92]; omega
            · rw [sp_byte, if_neg h92]
            · rw [sp_tok, if_pos h92]; omega
            · rw [sp_byte, if_pos h92]
        refine k77 _ fo b ?_
        unfold v_IT_take_77
        refine ⟨by omega, by omega, fun h => by omega, fun _ => ⟨by omega, fun h92 => body b ?_ ?_, fun h92 => body (b + 1) ?_ ?_⟩⟩
        · rw [sp_tok, if_neg h92]
        · rw [sp_byte, if_neg h92]
        · rw [sp_tok, if_pos h92]
        · rw [sp_byte, if_pos h92]
  have ent : tT k = 91 → k + 1 < a ∧ K77 (decide (sp_sf tT a k = k + 2)) false (sp_sf tT a k) := by
    intro h91
    have hs : sp_se tT a (sp_sf tT a k) true = z + 1 := by
      rw [sp_end, if_neg (by rw [h91]; decide), if_pos h91] at h4
      exact h4
    obtain ⟨g1, -⟩ := sp_set1 hs h3
    have := sp_sf_gt tT a k
    exact ⟨by omega, key h91 z _ true false (by omega) hs (by rw [Bool.false_or])⟩
  have sf : tT k = 91 → ∀ q : Bool, (q = true ↔ (tT (k + 1) = 33 ∨ tT (k + 1) = 94)) → v_IT_take_56 tT k z x a K77 (p_IT_take tT k z x a) q := by
    intro h91 q hq
    obtain ⟨g1, g2⟩ := ent h91
    unfold v_IT_take_56
    refine ⟨fun h => ?_, fun h => ?_⟩
    · have : ¬ (k + 1 < a ∧ (tT (k + 1) = 33 ∨ tT (k + 1) = 94)) := fun w => by rw [hq.mpr w.2] at h; cases h
      rw [sp_sf, if_neg this, decide_eq_false (by omega)] at g2
      rw [h]; exact g2
    · rw [sp_sf, if_pos ⟨g1, hq.mp h⟩, decide_eq_true rfl] at g2
      rw [h]; exact g2
  unfold v_IT_take v_IT_take_51
  refine ⟨by omega, fun hn => ⟨by omega, fun h91 => ?_, fun hn91 => ?_⟩, fun h63 => ?_⟩
  · have g1 := (ent h91).1
    refine ⟨by omega, fun h33 => sf h91 true ⟨fun _ => Or.inl h33, fun _ => rfl⟩, fun hn33 => ⟨by omega, fun hn94 => sf h91 false ⟨fun h => (by cases h), fun h => ?_⟩, fun h94 => sf h91 true ⟨fun _ => Or.inr h94, fun _ => rfl⟩⟩⟩
    rcases h with h | h
    · exact absurd h hn33
    · exact absurd h hn94
  · have hb : tT z = sp_byte tT k := by
      rw [sp_end] at h4
      rw [sp_byte]
      split at h4
      · rename_i h92
        rw [if_pos h92]
        congr 1
        omega
      · rename_i h92
        rw [if_neg h92]
        congr 1
        omega
    refine ⟨by omega, fun h => ?_, fun h => ?_⟩
    · rw [p_IT_take, sp_take, if_neg hn, if_neg hn91, ← hb, decide_eq_false h]
    · rw [p_IT_take, sp_take, if_neg hn, if_neg hn91, ← hb, decide_eq_true h]
  · rw [p_IT_take, sp_take, if_pos h63]
end
section

theorem d_IT_take_0 : decode b_IT_take 0 = .ok (.aload_n 0, 1) := by decide +kernel
theorem d_IT_take_1 : decode b_IT_take 1 = .ok (.iload_n 1, 1) := by decide +kernel
theorem d_IT_take_2 : decode b_IT_take 2 = .ok (.caload, 1) := by decide +kernel
theorem d_IT_take_3 : decode b_IT_take 3 = .ok (.bipush 63, 2) := by decide +kernel
theorem d_IT_take_5 : decode b_IT_take 5 = .ok (.if_icmp .ne 5, 3) := by decide +kernel
theorem d_IT_take_8 : decode b_IT_take 8 = .ok (.iconst 1, 1) := by decide +kernel
theorem d_IT_take_9 : decode b_IT_take 9 = .ok (.ireturn, 1) := by decide +kernel
theorem d_IT_take_10 : decode b_IT_take 10 = .ok (.aload_n 0, 1) := by decide +kernel
theorem d_IT_take_11 : decode b_IT_take 11 = .ok (.iload_n 1, 1) := by decide +kernel
theorem d_IT_take_12 : decode b_IT_take 12 = .ok (.caload, 1) := by decide +kernel
theorem d_IT_take_13 : decode b_IT_take 13 = .ok (.bipush 91, 2) := by decide +kernel
theorem d_IT_take_15 : decode b_IT_take 15 = .ok (.if_icmp .eq 16, 3) := by decide +kernel
theorem d_IT_take_18 : decode b_IT_take 18 = .ok (.aload_n 0, 1) := by decide +kernel
theorem d_IT_take_19 : decode b_IT_take 19 = .ok (.iload_n 2, 1) := by decide +kernel
theorem d_IT_take_20 : decode b_IT_take 20 = .ok (.caload, 1) := by decide +kernel
theorem d_IT_take_21 : decode b_IT_take 21 = .ok (.iload_n 3, 1) := by decide +kernel
theorem d_IT_take_22 : decode b_IT_take 22 = .ok (.if_icmp .ne 7, 3) := by decide +kernel
theorem d_IT_take_25 : decode b_IT_take 25 = .ok (.iconst 1, 1) := by decide +kernel
theorem d_IT_take_26 : decode b_IT_take 26 = .ok (.goto 4, 3) := by decide +kernel
theorem d_IT_take_29 : decode b_IT_take 29 = .ok (.iconst 0, 1) := by decide +kernel
theorem d_IT_take_30 : decode b_IT_take 30 = .ok (.ireturn, 1) := by decide +kernel
theorem d_IT_take_31 : decode b_IT_take 31 = .ok (.aload_n 0, 1) := by decide +kernel
theorem d_IT_take_32 : decode b_IT_take 32 = .ok (.iload_n 1, 1) := by decide +kernel
theorem d_IT_take_33 : decode b_IT_take 33 = .ok (.iconst 1, 1) := by decide +kernel
theorem d_IT_take_34 : decode b_IT_take 34 = .ok (.iadd, 1) := by decide +kernel
theorem d_IT_take_35 : decode b_IT_take 35 = .ok (.caload, 1) := by decide +kernel
theorem d_IT_take_36 : decode b_IT_take 36 = .ok (.bipush 33, 2) := by decide +kernel
theorem d_IT_take_38 : decode b_IT_take 38 = .ok (.if_icmp .eq 13, 3) := by decide +kernel
theorem d_IT_take_41 : decode b_IT_take 41 = .ok (.aload_n 0, 1) := by decide +kernel
theorem d_IT_take_42 : decode b_IT_take 42 = .ok (.iload_n 1, 1) := by decide +kernel
theorem d_IT_take_43 : decode b_IT_take 43 = .ok (.iconst 1, 1) := by decide +kernel
theorem d_IT_take_44 : decode b_IT_take 44 = .ok (.iadd, 1) := by decide +kernel
theorem d_IT_take_45 : decode b_IT_take 45 = .ok (.caload, 1) := by decide +kernel
theorem d_IT_take_46 : decode b_IT_take 46 = .ok (.bipush 94, 2) := by decide +kernel
theorem d_IT_take_48 : decode b_IT_take 48 = .ok (.if_icmp .ne 7, 3) := by decide +kernel
theorem d_IT_take_51 : decode b_IT_take 51 = .ok (.iconst 1, 1) := by decide +kernel
theorem d_IT_take_52 : decode b_IT_take 52 = .ok (.goto 4, 3) := by decide +kernel
theorem d_IT_take_55 : decode b_IT_take 55 = .ok (.iconst 0, 1) := by decide +kernel
theorem d_IT_take_56 : decode b_IT_take 56 = .ok (.istore 4, 2) := by decide +kernel
theorem d_IT_take_58 : decode b_IT_take 58 = .ok (.iconst 0, 1) := by decide +kernel
theorem d_IT_take_59 : decode b_IT_take 59 = .ok (.istore 5, 2) := by decide +kernel
theorem d_IT_take_61 : decode b_IT_take 61 = .ok (.iload 4, 2) := by decide +kernel
theorem d_IT_take_63 : decode b_IT_take 63 = .ok (.ifCond .eq 9, 3) := by decide +kernel
theorem d_IT_take_66 : decode b_IT_take 66 = .ok (.iload_n 1, 1) := by decide +kernel
theorem d_IT_take_67 : decode b_IT_take 67 = .ok (.iconst 2, 1) := by decide +kernel
theorem d_IT_take_68 : decode b_IT_take 68 = .ok (.iadd, 1) := by decide +kernel
theorem d_IT_take_69 : decode b_IT_take 69 = .ok (.goto 6, 3) := by decide +kernel
theorem d_IT_take_72 : decode b_IT_take 72 = .ok (.iload_n 1, 1) := by decide +kernel
theorem d_IT_take_73 : decode b_IT_take 73 = .ok (.iconst 1, 1) := by decide +kernel
theorem d_IT_take_74 : decode b_IT_take 74 = .ok (.iadd, 1) := by decide +kernel
theorem d_IT_take_75 : decode b_IT_take 75 = .ok (.istore 6, 2) := by decide +kernel
theorem d_IT_take_77 : decode b_IT_take 77 = .ok (.iload 6, 2) := by decide +kernel
theorem d_IT_take_79 : decode b_IT_take 79 = .ok (.iload_n 2, 1) := by decide +kernel
theorem d_IT_take_80 : decode b_IT_take 80 = .ok (.if_icmp .ge 92, 3) := by decide +kernel
theorem d_IT_take_83 : decode b_IT_take 83 = .ok (.aload_n 0, 1) := by decide +kernel
theorem d_IT_take_84 : decode b_IT_take 84 = .ok (.iload 6, 2) := by decide +kernel
theorem d_IT_take_86 : decode b_IT_take 86 = .ok (.caload, 1) := by decide +kernel
theorem d_IT_take_87 : decode b_IT_take 87 = .ok (.bipush 92, 2) := by decide +kernel
theorem d_IT_take_89 : decode b_IT_take 89 = .ok (.if_icmp .ne 6, 3) := by decide +kernel
theorem d_IT_take_92 : decode b_IT_take 92 = .ok (.iinc 6 1, 3) := by decide +kernel
theorem d_IT_take_95 : decode b_IT_take 95 = .ok (.aload_n 0, 1) := by decide +kernel
theorem d_IT_take_96 : decode b_IT_take 96 = .ok (.iload 6, 2) := by decide +kernel
theorem d_IT_take_98 : decode b_IT_take 98 = .ok (.caload, 1) := by decide +kernel
theorem d_IT_take_99 : decode b_IT_take 99 = .ok (.istore 7, 2) := by decide +kernel
theorem d_IT_take_101 : decode b_IT_take 101 = .ok (.iload 7, 2) := by decide +kernel
theorem d_IT_take_103 : decode b_IT_take 103 = .ok (.istore 8, 2) := by decide +kernel
theorem d_IT_take_105 : decode b_IT_take 105 = .ok (.iload 6, 2) := by decide +kernel
theorem d_IT_take_107 : decode b_IT_take 107 = .ok (.iconst 2, 1) := by decide +kernel
theorem d_IT_take_108 : decode b_IT_take 108 = .ok (.iadd, 1) := by decide +kernel
theorem d_IT_take_109 : decode b_IT_take 109 = .ok (.iload_n 2, 1) := by decide +kernel
theorem d_IT_take_110 : decode b_IT_take 110 = .ok (.if_icmp .ge 41, 3) := by decide +kernel
theorem d_IT_take_113 : decode b_IT_take 113 = .ok (.aload_n 0, 1) := by decide +kernel
theorem d_IT_take_114 : decode b_IT_take 114 = .ok (.iload 6, 2) := by decide +kernel
theorem d_IT_take_116 : decode b_IT_take 116 = .ok (.iconst 1, 1) := by decide +kernel
theorem d_IT_take_117 : decode b_IT_take 117 = .ok (.iadd, 1) := by decide +kernel
theorem d_IT_take_118 : decode b_IT_take 118 = .ok (.caload, 1) := by decide +kernel
theorem d_IT_take_119 : decode b_IT_take 119 = .ok (.bipush 45, 2) := by decide +kernel
theorem d_IT_take_121 : decode b_IT_take 121 = .ok (.if_icmp .ne 30, 3) := by decide +kernel
theorem d_IT_take_124 : decode b_IT_take 124 = .ok (.iload 6, 2) := by decide +kernel
theorem d_IT_take_126 : decode b_IT_take 126 = .ok (.aload_n 0, 1) := by decide +kernel
theorem d_IT_take_127 : decode b_IT_take 127 = .ok (.iload 6, 2) := by decide +kernel
theorem d_IT_take_129 : decode b_IT_take 129 = .ok (.iconst 2, 1) := by decide +kernel
theorem d_IT_take_130 : decode b_IT_take 130 = .ok (.iadd, 1) := by decide +kernel
theorem d_IT_take_131 : decode b_IT_take 131 = .ok (.caload, 1) := by decide +kernel
theorem d_IT_take_132 : decode b_IT_take 132 = .ok (.bipush 92, 2) := by decide +kernel
theorem d_IT_take_134 : decode b_IT_take 134 = .ok (.if_icmp .ne 7, 3) := by decide +kernel
theorem d_IT_take_137 : decode b_IT_take 137 = .ok (.iconst 3, 1) := by decide +kernel
theorem d_IT_take_138 : decode b_IT_take 138 = .ok (.goto 4, 3) := by decide +kernel
theorem d_IT_take_141 : decode b_IT_take 141 = .ok (.iconst 2, 1) := by decide +kernel
theorem d_IT_take_142 : decode b_IT_take 142 = .ok (.iadd, 1) := by decide +kernel
theorem d_IT_take_143 : decode b_IT_take 143 = .ok (.istore 6, 2) := by decide +kernel
theorem d_IT_take_145 : decode b_IT_take 145 = .ok (.aload_n 0, 1) := by decide +kernel
theorem d_IT_take_146 : decode b_IT_take 146 = .ok (.iload 6, 2) := by decide +kernel
theorem d_IT_take_148 : decode b_IT_take 148 = .ok (.caload, 1) := by decide +kernel
theorem d_IT_take_149 : decode b_IT_take 149 = .ok (.istore 8, 2) := by decide +kernel
theorem d_IT_take_151 : decode b_IT_take 151 = .ok (.iload 7, 2) := by decide +kernel
theorem d_IT_take_153 : decode b_IT_take 153 = .ok (.iload_n 3, 1) := by decide +kernel
theorem d_IT_take_154 : decode b_IT_take 154 = .ok (.if_icmp .gt 12, 3) := by decide +kernel
theorem d_IT_take_157 : decode b_IT_take 157 = .ok (.iload_n 3, 1) := by decide +kernel
theorem d_IT_take_158 : decode b_IT_take 158 = .ok (.iload 8, 2) := by decide +kernel
theorem d_IT_take_160 : decode b_IT_take 160 = .ok (.if_icmp .gt 6, 3) := by decide +kernel
theorem d_IT_take_163 : decode b_IT_take 163 = .ok (.iconst 1, 1) := by decide +kernel
theorem d_IT_take_164 : decode b_IT_take 164 = .ok (.istore 5, 2) := by decide +kernel
theorem d_IT_take_166 : decode b_IT_take 166 = .ok (.iinc 6 1, 3) := by decide +kernel
theorem d_IT_take_169 : decode b_IT_take 169 = .ok (.goto (-92), 3) := by decide +kernel
theorem d_IT_take_172 : decode b_IT_take 172 = .ok (.iload 5, 2) := by decide +kernel
theorem d_IT_take_174 : decode b_IT_take 174 = .ok (.iload 4, 2) := by decide +kernel
theorem d_IT_take_176 : decode b_IT_take 176 = .ok (.if_icmp .eq 7, 3) := by decide +kernel
theorem d_IT_take_179 : decode b_IT_take 179 = .ok (.iconst 1, 1) := by decide +kernel
theorem d_IT_take_180 : decode b_IT_take 180 = .ok (.goto 4, 3) := by decide +kernel
theorem d_IT_take_183 : decode b_IT_take 183 = .ok (.iconst 0, 1) := by decide +kernel
theorem d_IT_take_184 : decode b_IT_take 184 = .ok (.ireturn, 1) := by decide +kernel
abbrev w_IT_take : List Cond := Cond.code y_IT_take b_IT_take 9 (some .boolean) :: ig_T
theorem g_IT_take : GoodIn ig_T w_IT_take := ig_T_good (ig_T_mem (List.mem_append_right _ (List.mem_append_left _ (List.mem_of_getElem? (i := 80) rfl))) rfl)
set_option maxHeartbeats 4000000 in
set_option maxRecDepth 100000 in
theorem c_IT_take (l : Launch) (dC : Nat → ClassId) (dI : Nat → Nat → Nat) (cC cI cZ cL : ClassId) (qt : Nat)  (tT : Nat → Int32) (k : Nat) (z : Nat) (x : Int32) (a : Nat) (sz : Nat) (hr : r_IT_take tT k z x a) : Met l y_IT_take w_IT_take ({ frames := 0, cells := 0, slots := 0, locals := 0 }) (ig_Pc (dC, dI) ig_cl0 [(cC, .char), (cI, .int), (cZ, .boolean), (cL, .long)] [.ref qt, .int (nI k), .int (nI z), .int x] [(qt, .inl (cC, 1000, .inl tT))] sz) (va_Qi (fun (r : Int32) (u : Unit) => ∃ zr : Bool, r = bI zr ∧ p_IT_take tT k z x a zr ) (fun u t => va_P (dC, dI) ig_cl0 ((fun (u : Unit) => [(qt, .inl (cC, 1000, .inl tT))]) u) t.heap ∧ va_D (va_A [(qt, .inl (cC, 1000, .inl tT))] sz) ((fun (u : Unit) => [(qt, .inl (cC, 1000, .inl tT))]) u)) (va_A [(qt, .inl (cC, 1000, .inl tT))] sz)) 0 0 (va_A [(qt, .inl (cC, 1000, .inl tT))] sz) := by
  refine ig_metI (fun (r : Int32) (u : Unit) => ∃ zr : Bool, r = bI zr ∧ p_IT_take tT k z x a zr ) (fun (u : Unit) => [(qt, .inl (cC, 1000, .inl tT))]) (by decide) rfl (Nat.le_of_ble_eq_true rfl) rfl (by rintro r u ⟨b, rfl, -⟩; exact bI_ret b) ?_
  intro zp ze zs zm zargs zbelow zmeth zc zA zQ hx hb hml hown hts hK hN hA hret
  obtain ⟨K77, hK77⟩ : ∃ K : Bool → Bool → Nat → Prop, K = fun (tu : Bool) (fo : Bool) (b : Nat) => ig_W zp l ze ({ frames := 0, cells := 0, slots := 0, locals := 0 }) zs zm zargs zbelow zmeth zc (dC, dI) ig_cl0 zA zs.heap 9 0 0 zQ 77 [(0, .ref qt), (2, .int (nI z)), (3, .int x), (4, .int (bI tu)), (5, .int (bI fo)), (6, .int (nI b))] [] [(qt, .inl (cC, 1000, .inl tT))] := ⟨_, rfl⟩
  have j56 : ∀ (s0 : Bool), v_IT_take_56 tT k z x a K77 (p_IT_take tT k z x a) s0 → ig_W zp l ze ({ frames := 0, cells := 0, slots := 0, locals := 0 }) zs zm zargs zbelow zmeth zc (dC, dI) ig_cl0 zA zs.heap 9 0 0 zQ 56 [(0, .ref qt), (1, .int (nI k)), (2, .int (nI z)), (3, .int x)] [.int (bI s0)] [(qt, .inl (cC, 1000, .inl tT))] := by
    intro s0 hv
    unfold v_IT_take_56 at hv
    refine ig_istore (lv' := [(4, .int (bI s0)), (0, .ref qt), (1, .int (nI k)), (2, .int (nI z)), (3, .int x)]) hx hb d_IT_take_56 (by decide) rfl ?_
    refine ig_iconst (v := 0) hx hb d_IT_take_58 (by decide) ?_
    refine ig_istore (lv' := [(5, .int 0), (4, .int (bI s0)), (0, .ref qt), (1, .int (nI k)), (2, .int (nI z)), (3, .int x)]) hx hb d_IT_take_59 (by decide) rfl ?_
    refine ig_iload hx hb 1 d_IT_take_61 rfl ?_
    refine ig_if_eqB (tgt := 72) hx hb s0 rfl d_IT_take_63 (by decide) (fun h => ?_) (fun h => ?_)
    · have hv := hv.1 h
      refine ig_iload_n hx hb 3 d_IT_take_72 rfl rfl ?_
      refine ig_iconst (v := 1) hx hb d_IT_take_73 (by decide) ?_
      refine ig_iaddN hx hb k 1 rfl rfl d_IT_take_74 ?_
      refine ig_istore (lv' := [(6, .int (nI (k + 1))), (5, .int 0), (4, .int (bI s0)), (0, .ref qt), (1, .int (nI k)), (2, .int (nI z)), (3, .int x)]) hx hb d_IT_take_75 (by decide) rfl ?_
      refine ig_lv (lv' := [(0, .ref qt), (2, .int (nI z)), (3, .int x), (4, .int (bI s0)), (5, .int 0), (6, .int (nI (k + 1)))]) [3, 5, 6, 2, 1, 0] rfl ?_
      rw [hK77] at hv
      exact hv
    · have hv := hv.2 h
      refine ig_iload_n hx hb 3 d_IT_take_66 rfl rfl ?_
      refine ig_iconst (v := 2) hx hb d_IT_take_67 (by decide) ?_
      refine ig_iaddN hx hb k 2 rfl rfl d_IT_take_68 ?_
      refine ig_goto (tgt := 75) hx hb d_IT_take_69 (by decide) ?_
      refine ig_istore (lv' := [(6, .int (nI (k + 2))), (5, .int 0), (4, .int (bI s0)), (0, .ref qt), (1, .int (nI k)), (2, .int (nI z)), (3, .int x)]) hx hb d_IT_take_75 (by decide) rfl ?_
      refine ig_lv (lv' := [(0, .ref qt), (2, .int (nI z)), (3, .int x), (4, .int (bI s0)), (5, .int 0), (6, .int (nI (k + 2)))]) [3, 5, 6, 2, 1, 0] rfl ?_
      rw [hK77] at hv
      exact hv
  have j51 : v_IT_take_51 tT k z x a K77 (p_IT_take tT k z x a) → ig_W zp l ze ({ frames := 0, cells := 0, slots := 0, locals := 0 }) zs zm zargs zbelow zmeth zc (dC, dI) ig_cl0 zA zs.heap 9 0 0 zQ 51 [(0, .ref qt), (1, .int (nI k)), (2, .int (nI z)), (3, .int x)] [] [(qt, .inl (cC, 1000, .inl tT))] := by
    intro hv
    unfold v_IT_take_51 at hv
    refine ig_iconst (v := 1) hx hb d_IT_take_51 (by decide) ?_
    refine ig_goto (tgt := 56) hx hb d_IT_take_52 (by decide) ?_
    refine ig_lv (lv' := [(0, .ref qt), (1, .int (nI k)), (2, .int (nI z)), (3, .int x)]) [0, 1, 2, 3] rfl ?_
    exact j56 _ hv
  have j151 : ∀ (tu : Bool) (fo : Bool) (b : Nat) (lo : Int32) (hi : Int32), v_IT_take_151 tT k z x a K77 (p_IT_take tT k z x a) tu fo b lo hi → ig_W zp l ze ({ frames := 0, cells := 0, slots := 0, locals := 0 }) zs zm zargs zbelow zmeth zc (dC, dI) ig_cl0 zA zs.heap 9 0 0 zQ 151 [(0, .ref qt), (2, .int (nI z)), (3, .int x), (4, .int (bI tu)), (5, .int (bI fo)), (6, .int (nI b)), (7, .int lo), (8, .int hi)] [] [(qt, .inl (cC, 1000, .inl tT))] := by
    intro tu fo b lo hi hv
    unfold v_IT_take_151 at hv
    refine ig_iload hx hb 6 d_IT_take_151 rfl ?_
    refine ig_iload_n hx hb 2 d_IT_take_153 rfl rfl ?_
    refine ig_icmp_gt (tgt := 166) hx hb d_IT_take_154 (by decide) (fun h => ?_) (fun h => ?_)
    · have hv := hv.1 h
      refine ig_iinc (v := (nI (b + 1))) (lv' := [(6, .int (nI (b + 1))), (0, .ref qt), (2, .int (nI z)), (3, .int x), (4, .int (bI tu)), (5, .int (bI fo)), (7, .int lo), (8, .int hi)]) hx hb 5 d_IT_take_166 rfl (ig_inc b 1 (by decide)) (by decide) rfl ?_
      refine ig_goto (tgt := 77) hx hb d_IT_take_169 (by decide) ?_
      refine ig_lv (lv' := [(0, .ref qt), (2, .int (nI z)), (3, .int x), (4, .int (bI tu)), (5, .int (bI fo)), (6, .int (nI (b + 1)))]) [1, 2, 3, 4, 5, 0] rfl ?_
      rw [hK77] at hv
      exact hv
    · have hv := hv.2 h
      refine ig_iload_n hx hb 2 d_IT_take_157 rfl rfl ?_
      refine ig_iload hx hb 7 d_IT_take_158 rfl ?_
      refine ig_icmp_gt (tgt := 166) hx hb d_IT_take_160 (by decide) (fun h => ?_) (fun h => ?_)
      · have hv := hv.1 h
        refine ig_iinc (v := (nI (b + 1))) (lv' := [(6, .int (nI (b + 1))), (0, .ref qt), (2, .int (nI z)), (3, .int x), (4, .int (bI tu)), (5, .int (bI fo)), (7, .int lo), (8, .int hi)]) hx hb 5 d_IT_take_166 rfl (ig_inc b 1 (by decide)) (by decide) rfl ?_
        refine ig_goto (tgt := 77) hx hb d_IT_take_169 (by decide) ?_
        refine ig_lv (lv' := [(0, .ref qt), (2, .int (nI z)), (3, .int x), (4, .int (bI tu)), (5, .int (bI fo)), (6, .int (nI (b + 1)))]) [1, 2, 3, 4, 5, 0] rfl ?_
        rw [hK77] at hv
        exact hv
      · have hv := hv.2 h
        refine ig_iconst (v := 1) hx hb d_IT_take_163 (by decide) ?_
        refine ig_istore (lv' := [(5, .int 1), (0, .ref qt), (2, .int (nI z)), (3, .int x), (4, .int (bI tu)), (6, .int (nI b)), (7, .int lo), (8, .int hi)]) hx hb d_IT_take_164 (by decide) rfl ?_
        refine ig_iinc (v := (nI (b + 1))) (lv' := [(6, .int (nI (b + 1))), (5, .int 1), (0, .ref qt), (2, .int (nI z)), (3, .int x), (4, .int (bI tu)), (7, .int lo), (8, .int hi)]) hx hb 5 d_IT_take_166 rfl (ig_inc b 1 (by decide)) (by decide) rfl ?_
        refine ig_goto (tgt := 77) hx hb d_IT_take_169 (by decide) ?_
        refine ig_lv (lv' := [(0, .ref qt), (2, .int (nI z)), (3, .int x), (4, .int (bI tu)), (5, .int 1), (6, .int (nI (b + 1)))]) [2, 3, 4, 5, 1, 0] rfl ?_
        rw [hK77] at hv
        exact hv
  have j142 : ∀ (tu : Bool) (fo : Bool) (lo : Int32) (s0 : Nat) (s1 : Nat), v_IT_take_142 tT k z x a K77 (p_IT_take tT k z x a) tu fo lo s0 s1 → ig_W zp l ze ({ frames := 0, cells := 0, slots := 0, locals := 0 }) zs zm zargs zbelow zmeth zc (dC, dI) ig_cl0 zA zs.heap 9 0 0 zQ 142 [(0, .ref qt), (2, .int (nI z)), (3, .int x), (4, .int (bI tu)), (5, .int (bI fo)), (7, .int lo)] [.int (nI s0), .int (nI s1)] [(qt, .inl (cC, 1000, .inl tT))] := by
    intro tu fo lo s0 s1 hv
    unfold v_IT_take_142 at hv
    refine ig_iaddN hx hb s1 s0 rfl rfl d_IT_take_142 ?_
    refine ig_istore (lv' := [(6, .int (nI (s1 + s0))), (0, .ref qt), (2, .int (nI z)), (3, .int x), (4, .int (bI tu)), (5, .int (bI fo)), (7, .int lo)]) hx hb d_IT_take_143 (by decide) rfl ?_
    refine ig_aload_n hx hb 1 d_IT_take_145 rfl rfl ?_
    refine ig_iload hx hb 0 d_IT_take_146 rfl ?_
    obtain ⟨hc, hv⟩ := hv
    refine ig_cald (x := (tT (s1 + s0))) hx hb hK 0 0 rfl rfl (s1 + s0) rfl hc (by decide) rfl d_IT_take_148 ?_
    refine ig_istore (lv' := [(8, .int (tT (s1 + s0))), (6, .int (nI (s1 + s0))), (0, .ref qt), (2, .int (nI z)), (3, .int x), (4, .int (bI tu)), (5, .int (bI fo)), (7, .int lo)]) hx hb d_IT_take_149 (by decide) rfl ?_
    refine ig_lv (lv' := [(0, .ref qt), (2, .int (nI z)), (3, .int x), (4, .int (bI tu)), (5, .int (bI fo)), (6, .int (nI (s1 + s0))), (7, .int lo), (8, .int (tT (s1 + s0)))]) [2, 3, 4, 5, 6, 1, 7, 0] rfl ?_
    exact j151 _ _ _ _ _ hv
  have j95 : ∀ (tu : Bool) (fo : Bool) (b : Nat), v_IT_take_95 tT k z x a K77 (p_IT_take tT k z x a) tu fo b → ig_W zp l ze ({ frames := 0, cells := 0, slots := 0, locals := 0 }) zs zm zargs zbelow zmeth zc (dC, dI) ig_cl0 zA zs.heap 9 0 0 zQ 95 [(0, .ref qt), (2, .int (nI z)), (3, .int x), (4, .int (bI tu)), (5, .int (bI fo)), (6, .int (nI b))] [] [(qt, .inl (cC, 1000, .inl tT))] := by
    intro tu fo b hv
    unfold v_IT_take_95 at hv
    refine ig_aload_n hx hb 0 d_IT_take_95 rfl rfl ?_
    refine ig_iload hx hb 5 d_IT_take_96 rfl ?_
    obtain ⟨hc, hv⟩ := hv
    refine ig_cald (x := (tT b)) hx hb hK 0 0 rfl rfl b rfl hc (by decide) rfl d_IT_take_98 ?_
    refine ig_istore (lv' := [(7, .int (tT b)), (0, .ref qt), (2, .int (nI z)), (3, .int x), (4, .int (bI tu)), (5, .int (bI fo)), (6, .int (nI b))]) hx hb d_IT_take_99 (by decide) rfl ?_
    refine ig_iload hx hb 0 d_IT_take_101 rfl ?_
    refine ig_istore (lv' := [(8, .int (tT b)), (7, .int (tT b)), (0, .ref qt), (2, .int (nI z)), (3, .int x), (4, .int (bI tu)), (5, .int (bI fo)), (6, .int (nI b))]) hx hb d_IT_take_103 (by decide) rfl ?_
    refine ig_iload hx hb 7 d_IT_take_105 rfl ?_
    refine ig_iconst (v := 2) hx hb d_IT_take_107 (by decide) ?_
    refine ig_iaddN hx hb b 2 rfl rfl d_IT_take_108 ?_
    refine ig_iload_n hx hb 3 d_IT_take_109 rfl rfl ?_
    obtain ⟨h1, hv⟩ := hv
    obtain ⟨h2, hv⟩ := hv
    refine ig_icmp_geN (tgt := 151) hx hb (b + 2) z rfl rfl d_IT_take_110 (by decide) h1 h2 (fun h => ?_) (fun h => ?_)
    · have hv := hv.1 h
      refine ig_lv (lv' := [(0, .ref qt), (2, .int (nI z)), (3, .int x), (4, .int (bI tu)), (5, .int (bI fo)), (6, .int (nI b)), (7, .int (tT b)), (8, .int (tT b))]) [2, 3, 4, 5, 6, 7, 1, 0] rfl ?_
      exact j151 _ _ _ _ _ hv
    · have hv := hv.2 h
      refine ig_aload_n hx hb 2 d_IT_take_113 rfl rfl ?_
      refine ig_iload hx hb 7 d_IT_take_114 rfl ?_
      refine ig_iconst (v := 1) hx hb d_IT_take_116 (by decide) ?_
      refine ig_iaddN hx hb b 1 rfl rfl d_IT_take_117 ?_
      obtain ⟨hc, hv⟩ := hv
      refine ig_cald (x := (tT (b + 1))) hx hb hK 0 0 rfl rfl (b + 1) rfl hc (by decide) rfl d_IT_take_118 ?_
      refine ig_bipush (v := 45) hx hb d_IT_take_119 (by decide) ?_
      refine ig_icmp_ne (tgt := 151) hx hb d_IT_take_121 (by decide) (fun h => ?_) (fun h => ?_)
      · have hv := hv.1 h
        refine ig_lv (lv' := [(0, .ref qt), (2, .int (nI z)), (3, .int x), (4, .int (bI tu)), (5, .int (bI fo)), (6, .int (nI b)), (7, .int (tT b)), (8, .int (tT b))]) [2, 3, 4, 5, 6, 7, 1, 0] rfl ?_
        exact j151 _ _ _ _ _ hv
      · have hv := hv.2 h
        refine ig_iload hx hb 7 d_IT_take_124 rfl ?_
        refine ig_aload_n hx hb 2 d_IT_take_126 rfl rfl ?_
        refine ig_iload hx hb 7 d_IT_take_127 rfl ?_
        refine ig_iconst (v := 2) hx hb d_IT_take_129 (by decide) ?_
        refine ig_iaddN hx hb b 2 rfl rfl d_IT_take_130 ?_
        obtain ⟨hc, hv⟩ := hv
        refine ig_cald (x := (tT (b + 2))) hx hb hK 0 0 rfl rfl (b + 2) rfl hc (by decide) rfl d_IT_take_131 ?_
        refine ig_bipush (v := 92) hx hb d_IT_take_132 (by decide) ?_
        refine ig_icmp_ne (tgt := 141) hx hb d_IT_take_134 (by decide) (fun h => ?_) (fun h => ?_)
        · have hv := hv.1 h
          refine ig_iconst (v := 2) hx hb d_IT_take_141 (by decide) ?_
          refine ig_lv (lv' := [(0, .ref qt), (2, .int (nI z)), (3, .int x), (4, .int (bI tu)), (5, .int (bI fo)), (7, .int (tT b))]) [2, 3, 4, 5, 6, 1] rfl ?_
          exact j142 _ _ _ _ _ hv
        · have hv := hv.2 h
          refine ig_iconst (v := 3) hx hb d_IT_take_137 (by decide) ?_
          refine ig_goto (tgt := 142) hx hb d_IT_take_138 (by decide) ?_
          refine ig_lv (lv' := [(0, .ref qt), (2, .int (nI z)), (3, .int x), (4, .int (bI tu)), (5, .int (bI fo)), (7, .int (tT b))]) [2, 3, 4, 5, 6, 1] rfl ?_
          exact j142 _ _ _ _ _ hv
  have k77 : ∀ (tu : Bool) (fo : Bool) (b : Nat), v_IT_take_77 tT k z x a K77 (p_IT_take tT k z x a) tu fo b → K77 tu fo b := by
    intro tu fo b hv
    unfold v_IT_take_77 at hv
    rw [hK77]
    show ig_W zp l ze ({ frames := 0, cells := 0, slots := 0, locals := 0 }) zs zm zargs zbelow zmeth zc (dC, dI) ig_cl0 zA zs.heap 9 0 0 zQ 77 [(0, .ref qt), (2, .int (nI z)), (3, .int x), (4, .int (bI tu)), (5, .int (bI fo)), (6, .int (nI b))] [] [(qt, .inl (cC, 1000, .inl tT))]
    refine ig_iload hx hb 5 d_IT_take_77 rfl ?_
    refine ig_iload_n hx hb 1 d_IT_take_79 rfl rfl ?_
    obtain ⟨h1, hv⟩ := hv
    obtain ⟨h2, hv⟩ := hv
    refine ig_icmp_geN (tgt := 172) hx hb b z rfl rfl d_IT_take_80 (by decide) h1 h2 (fun h => ?_) (fun h => ?_)
    · have hv := hv.1 h
      refine ig_iload hx hb 4 d_IT_take_172 rfl ?_
      refine ig_iload hx hb 3 d_IT_take_174 rfl ?_
      refine ig_icmp_eqB (tgt := 183) hx hb fo tu rfl rfl d_IT_take_176 (by decide) (fun h => ?_) (fun h => ?_)
      · have hv := hv.1 h
        refine ig_iconst (v := 0) hx hb d_IT_take_183 (by decide) ?_
        exact hret 184 _ 0 () d_IT_take_184 ⟨false, rfl, hv⟩
      · have hv := hv.2 h
        refine ig_iconst (v := 1) hx hb d_IT_take_179 (by decide) ?_
        refine ig_goto (tgt := 184) hx hb d_IT_take_180 (by decide) ?_
        exact hret 184 _ 1 () d_IT_take_184 ⟨true, rfl, hv⟩
    · have hv := hv.2 h
      refine ig_aload_n hx hb 0 d_IT_take_83 rfl rfl ?_
      refine ig_iload hx hb 5 d_IT_take_84 rfl ?_
      obtain ⟨hc, hv⟩ := hv
      refine ig_cald (x := (tT b)) hx hb hK 0 0 rfl rfl b rfl hc (by decide) rfl d_IT_take_86 ?_
      refine ig_bipush (v := 92) hx hb d_IT_take_87 (by decide) ?_
      refine ig_icmp_ne (tgt := 95) hx hb d_IT_take_89 (by decide) (fun h => ?_) (fun h => ?_)
      · have hv := hv.1 h
        refine ig_lv (lv' := [(0, .ref qt), (2, .int (nI z)), (3, .int x), (4, .int (bI tu)), (5, .int (bI fo)), (6, .int (nI b))]) [0, 1, 2, 3, 4, 5] rfl ?_
        exact j95 _ _ _ hv
      · have hv := hv.2 h
        refine ig_iinc (v := (nI (b + 1))) (lv' := [(6, .int (nI (b + 1))), (0, .ref qt), (2, .int (nI z)), (3, .int x), (4, .int (bI tu)), (5, .int (bI fo))]) hx hb 5 d_IT_take_92 rfl (ig_inc b 1 (by decide)) (by decide) rfl ?_
        refine ig_lv (lv' := [(0, .ref qt), (2, .int (nI z)), (3, .int x), (4, .int (bI tu)), (5, .int (bI fo)), (6, .int (nI (b + 1)))]) [1, 2, 3, 4, 5, 0] rfl ?_
        exact j95 _ _ _ hv
  have hv := t_IT_take tT k z x a hr K77 k77
  unfold v_IT_take at hv
  refine ig_aload_n hx hb 0 d_IT_take_0 rfl rfl ?_
  refine ig_iload_n hx hb 1 d_IT_take_1 rfl rfl ?_
  obtain ⟨hc, hv⟩ := hv
  refine ig_cald (x := (tT k)) hx hb hK 0 0 rfl rfl k rfl hc (by decide) rfl d_IT_take_2 ?_
  refine ig_bipush (v := 63) hx hb d_IT_take_3 (by decide) ?_
  refine ig_icmp_ne (tgt := 10) hx hb d_IT_take_5 (by decide) (fun h => ?_) (fun h => ?_)
  · have hv := hv.1 h
    refine ig_aload_n hx hb 0 d_IT_take_10 rfl rfl ?_
    refine ig_iload_n hx hb 1 d_IT_take_11 rfl rfl ?_
    obtain ⟨hc, hv⟩ := hv
    refine ig_cald (x := (tT k)) hx hb hK 0 0 rfl rfl k rfl hc (by decide) rfl d_IT_take_12 ?_
    refine ig_bipush (v := 91) hx hb d_IT_take_13 (by decide) ?_
    refine ig_icmp_eq (tgt := 31) hx hb d_IT_take_15 (by decide) (fun h => ?_) (fun h => ?_)
    · have hv := hv.1 h
      refine ig_aload_n hx hb 0 d_IT_take_31 rfl rfl ?_
      refine ig_iload_n hx hb 1 d_IT_take_32 rfl rfl ?_
      refine ig_iconst (v := 1) hx hb d_IT_take_33 (by decide) ?_
      refine ig_iaddN hx hb k 1 rfl rfl d_IT_take_34 ?_
      obtain ⟨hc, hv⟩ := hv
      refine ig_cald (x := (tT (k + 1))) hx hb hK 0 0 rfl rfl (k + 1) rfl hc (by decide) rfl d_IT_take_35 ?_
      refine ig_bipush (v := 33) hx hb d_IT_take_36 (by decide) ?_
      refine ig_icmp_eq (tgt := 51) hx hb d_IT_take_38 (by decide) (fun h => ?_) (fun h => ?_)
      · have hv := hv.1 h
        refine ig_lv (lv' := [(0, .ref qt), (1, .int (nI k)), (2, .int (nI z)), (3, .int x)]) [0, 1, 2, 3] rfl ?_
        exact j51 hv
      · have hv := hv.2 h
        refine ig_aload_n hx hb 0 d_IT_take_41 rfl rfl ?_
        refine ig_iload_n hx hb 1 d_IT_take_42 rfl rfl ?_
        refine ig_iconst (v := 1) hx hb d_IT_take_43 (by decide) ?_
        refine ig_iaddN hx hb k 1 rfl rfl d_IT_take_44 ?_
        obtain ⟨hc, hv⟩ := hv
        refine ig_cald (x := (tT (k + 1))) hx hb hK 0 0 rfl rfl (k + 1) rfl hc (by decide) rfl d_IT_take_45 ?_
        refine ig_bipush (v := 94) hx hb d_IT_take_46 (by decide) ?_
        refine ig_icmp_ne (tgt := 55) hx hb d_IT_take_48 (by decide) (fun h => ?_) (fun h => ?_)
        · have hv := hv.1 h
          refine ig_iconst (v := 0) hx hb d_IT_take_55 (by decide) ?_
          refine ig_lv (lv' := [(0, .ref qt), (1, .int (nI k)), (2, .int (nI z)), (3, .int x)]) [0, 1, 2, 3] rfl ?_
          exact j56 _ hv
        · have hv := hv.2 h
          refine ig_lv (lv' := [(0, .ref qt), (1, .int (nI k)), (2, .int (nI z)), (3, .int x)]) [0, 1, 2, 3] rfl ?_
          exact j51 hv
    · have hv := hv.2 h
      refine ig_aload_n hx hb 0 d_IT_take_18 rfl rfl ?_
      refine ig_iload_n hx hb 2 d_IT_take_19 rfl rfl ?_
      obtain ⟨hc, hv⟩ := hv
      refine ig_cald (x := (tT z)) hx hb hK 0 0 rfl rfl z rfl hc (by decide) rfl d_IT_take_20 ?_
      refine ig_iload_n hx hb 3 d_IT_take_21 rfl rfl ?_
      refine ig_icmp_ne (tgt := 29) hx hb d_IT_take_22 (by decide) (fun h => ?_) (fun h => ?_)
      · have hv := hv.1 h
        refine ig_iconst (v := 0) hx hb d_IT_take_29 (by decide) ?_
        exact hret 30 _ 0 () d_IT_take_30 ⟨false, rfl, hv⟩
      · have hv := hv.2 h
        refine ig_iconst (v := 1) hx hb d_IT_take_25 (by decide) ?_
        refine ig_goto (tgt := 30) hx hb d_IT_take_26 (by decide) ?_
        exact hret 30 _ 1 () d_IT_take_30 ⟨true, rfl, hv⟩
  · have hv := hv.2 h
    refine ig_iconst (v := 1) hx hb d_IT_take_8 (by decide) ?_
    exact hret 9 _ 1 () d_IT_take_9 ⟨true, rfl, hv⟩
end
section
def r_RL_hasVoidName (tT : Nat → Int32) (f : Nat) (a : Nat) : Prop := f ≤ a ∧ a ≤ 1000
def p_RL_hasVoidName (tT : Nat → Int32) (f : Nat) (a : Nat) (r : Bool) : Prop := r = (sp_hv tT a f)
def v_RL_hasVoidName_29 (tT : Nat → Int32) (f : Nat) (a : Nat) (K5 : Nat → Nat → Prop) (Q : Bool → Prop) (g : Nat) (b : Nat) : Prop := (r_IT_areWhole tT g b) ∧ (((decide (g < b) && !sp_void tT b g) = true → K5 (b + 1) (b + 1)) ∧ ((decide (g < b) && !sp_void tT b g) = false → Q true))
def v_RL_hasVoidName_5 (tT : Nat → Int32) (f : Nat) (a : Nat) (K5 : Nat → Nat → Prop) (Q : Bool → Prop) (g : Nat) (b : Nat) : Prop := (b < 2147483648) ∧ ((a < 2147483648) ∧ ((a < b → Q false) ∧ (¬ a < b → (b < 2147483648) ∧ ((a < 2147483648) ∧ ((b = a → v_RL_hasVoidName_29 tT f a K5 Q g b) ∧ (¬ b = a → (b < 1000) ∧ ((¬ (tT b) = 47 → K5 g (b + 1)) ∧ ((tT b) = 47 → v_RL_hasVoidName_29 tT f a K5 Q g b))))))))
def v_RL_hasVoidName (tT : Nat → Int32) (f : Nat) (a : Nat) (K5 : Nat → Nat → Prop) (Q : Bool → Prop) : Prop := K5 f f
theorem t_RL_hasVoidName (tT : Nat → Int32) (f : Nat) (a : Nat) (hr : r_RL_hasVoidName tT f a) (K5 : Nat → Nat → Prop) (k5 : ∀ g b, v_RL_hasVoidName_5 tT f a K5 (p_RL_hasVoidName tT f a) g b → K5 g b) : v_RL_hasVoidName tT f a K5 (p_RL_hasVoidName tT f a) := by
  obtain ⟨h1, h2⟩ := hr
  have key : ∀ d g b, a + 1 - b ≤ d → ((b ≤ a ∧ g ≤ b ∧ sp_eon tT a b = sp_eon tT a g ∧ sp_hv tT a g = sp_hv tT a f) ∨ (b = a + 1 ∧ sp_hv tT a f = false)) → K5 g b := by
    intro d
    induction d with
    | zero =>
      intro g b hd hI
      rcases hI with ⟨q1, -⟩ | ⟨q1, q2⟩
      · omega
      · refine k5 g b ?_
        unfold v_RL_hasVoidName_5
        exact ⟨by omega, by omega, fun _ => q2.symm, fun h => by omega⟩
    | succ d ih =>
      intro g b hd hI
      rcases hI with ⟨q1, q2, q3, q4⟩ | ⟨q1, q2⟩
      · have at' : (b = a ∨ tT b = 47) → v_RL_hasVoidName_29 tT f a K5 (p_RL_hasVoidName tT f a) g b := by
          intro hs
          have e1 : sp_eon tT a g = b := by rw [← q3]; exact sp_eon_at hs
          have e2 : sp_hv tT a f = ((decide (g = b) || sp_void tT b g) || (if h : b < a then sp_hv tT a (b + 1) else false)) := by
            rw [← q4, sp_hv.eq_1 tT a g]
            simp only [e1]
          unfold v_RL_hasVoidName_29
          refine ⟨⟨q2, by omega⟩, fun h => ?_, fun h => ?_⟩
          · simp only [Bool.and_eq_true, decide_eq_true_eq, Bool.not_eq_true'] at h
            rw [h.2, decide_eq_false (by omega), Bool.false_or, Bool.false_or] at e2
            refine ih (b + 1) (b + 1) (by omega) ?_
            by_cases hb : b < a
            · rw [dif_pos hb] at e2
              exact Or.inl ⟨hb, Nat.le_refl _, rfl, e2.symm⟩
            · rw [dif_neg hb] at e2
              exact Or.inr ⟨by omega, e2⟩
          · rw [p_RL_hasVoidName, e2]
            by_cases hgb : g = b
            · rw [decide_eq_true hgb]; simp
            · rw [decide_eq_true (by omega : g < b), Bool.true_and] at h
              have : sp_void tT b g = true := by simpa using h
              rw [this]; simp
        refine k5 g b ?_
        unfold v_RL_hasVoidName_5
        refine ⟨by omega, by omega, fun h => by omega, fun _ => ⟨by omega, by omega, fun h => at' (Or.inl h), fun h => ⟨by omega, fun h47 => ?_, fun h47 => at' (Or.inr h47)⟩⟩⟩
        exact ih g (b + 1) (by omega) (Or.inl ⟨by omega, by omega, by rw [← sp_eon_no (by omega) h47]; exact q3, q4⟩)
      · refine k5 g b ?_
        unfold v_RL_hasVoidName_5
        exact ⟨by omega, by omega, fun _ => q2.symm, fun h => by omega⟩
  exact key (a + 1) f f (by omega) (Or.inl ⟨h1, Nat.le_refl _, rfl, rfl⟩)

def r_RL_countNames (tT : Nat → Int32) (aS : Nat → Nat) (aE : Nat → Nat) (i : Nat) : Prop := i < 60 ∧ aS i ≤ aE i ∧ aE i ≤ 1000
def p_RL_countNames (tT : Nat → Int32) (aS : Nat → Nat) (aE : Nat → Nat) (i : Nat) (r : Nat) : Prop := r = (1 + sp_cnt tT (aE i) (aS i))
def v_RL_countNames_9 (tT : Nat → Int32) (aS : Nat → Nat) (aE : Nat → Nat) (i : Nat) (K9 : Nat → Nat → Prop) (Q : Nat → Prop) (x : Nat) (b : Nat) : Prop := (i < 60) ∧ ((b < 2147483648) ∧ ((aE i < 2147483648) ∧ ((aE i ≤ b → Q x) ∧ (¬ aE i ≤ b → (b < 1000) ∧ ((¬ (tT b) = 47 → K9 x (b + 1)) ∧ ((tT b) = 47 → K9 (x + 1) (b + 1)))))))
def v_RL_countNames (tT : Nat → Int32) (aS : Nat → Nat) (aE : Nat → Nat) (i : Nat) (K9 : Nat → Nat → Prop) (Q : Nat → Prop) : Prop := (i < 60) ∧ (K9 1 (aS i))
theorem t_RL_countNames (tT : Nat → Int32) (aS : Nat → Nat) (aE : Nat → Nat) (i : Nat) (hr : r_RL_countNames tT aS aE i) (K9 : Nat → Nat → Prop) (k9 : ∀ x b, v_RL_countNames_9 tT aS aE i K9 (p_RL_countNames tT aS aE i) x b → K9 x b) : v_RL_countNames tT aS aE i K9 (p_RL_countNames tT aS aE i) := by
  obtain ⟨h1, h2, h3⟩ := hr
  have key : ∀ d x b, aE i - b ≤ d → b ≤ aE i → x + sp_cnt tT (aE i) b = 1 + sp_cnt tT (aE i) (aS i) → K9 x b := by
    intro d
    induction d with
    | zero =>
      intro x b hd hb hI
      refine k9 x b ?_
      unfold v_RL_countNames_9
      refine ⟨h1, by omega, by omega, fun h => ?_, fun h => by omega⟩
      rw [sp_cnt_e h] at hI
      exact hI
    | succ d ih =>
      intro x b hd hb hI
      refine k9 x b ?_
      unfold v_RL_countNames_9
      refine ⟨h1, by omega, by omega, fun h => ?_, fun h => ⟨by omega, fun h47 => ?_, fun h47 => ?_⟩⟩
      · rw [sp_cnt_e h] at hI
        exact hI
      · exact ih x (b + 1) (by omega) (by omega) (by rw [← sp_cnt_no (by omega) h47]; exact hI)
      · rw [sp_cnt_at (by omega) h47] at hI
        exact ih (x + 1) (b + 1) (by omega) (by omega) (by omega)
  unfold v_RL_countNames
  exact ⟨h1, key _ 1 (aS i) (Nat.le_refl _) h2 rfl⟩

def r_RL_nameStart (tT : Nat → Int32) (aS : Nat → Nat) (aE : Nat → Nat) (i : Nat) (k : Nat) : Prop := i < 60 ∧ aS i ≤ aE i ∧ aE i ≤ 1000 ∧ k ≤ sp_cnt tT (aE i) (aS i)
def p_RL_nameStart (tT : Nat → Int32) (aS : Nat → Nat) (aE : Nat → Nat) (i : Nat) (k : Nat) (r : Nat) : Prop := r = (sp_nst tT (aE i) k (aS i))
def v_RL_nameStart_18 (tT : Nat → Int32) (aS : Nat → Nat) (aE : Nat → Nat) (i : Nat) (k : Nat) (K18 : Nat → Nat → Nat → Prop) (Q : Nat → Prop) (x : Nat) (g : Nat) (b : Nat) : Prop := (i < 60) ∧ ((b < 2147483648) ∧ ((aE i < 2147483648) ∧ ((aE i ≤ b → Q g) ∧ (¬ aE i ≤ b → (x < 2147483648) ∧ ((k < 2147483648) ∧ ((k ≤ x → Q g) ∧ (¬ k ≤ x → (b < 1000) ∧ ((¬ (tT b) = 47 → K18 x g (b + 1)) ∧ ((tT b) = 47 → K18 (x + 1) (b + 1) (b + 1))))))))))
def v_RL_nameStart (tT : Nat → Int32) (aS : Nat → Nat) (aE : Nat → Nat) (i : Nat) (k : Nat) (K18 : Nat → Nat → Nat → Prop) (Q : Nat → Prop) : Prop := (i < 60) ∧ ((i < 60) ∧ (K18 0 (aS i) (aS i)))
theorem t_RL_nameStart (tT : Nat → Int32) (aS : Nat → Nat) (aE : Nat → Nat) (i : Nat) (k : Nat) (hr : r_RL_nameStart tT aS aE i k) (K18 : Nat → Nat → Nat → Prop) (k18 : ∀ x g b, v_RL_nameStart_18 tT aS aE i k K18 (p_RL_nameStart tT aS aE i k) x g b → K18 x g b) : v_RL_nameStart tT aS aE i k K18 (p_RL_nameStart tT aS aE i k) := by
  obtain ⟨h1, h2, h3, h4⟩ := hr
  have hc : ∀ m, sp_cnt tT (aE i) m ≤ aE i - m := by
    intro m
    have : ∀ d m, aE i - m ≤ d → sp_cnt tT (aE i) m ≤ aE i - m := by
      intro d
      induction d with
      | zero => intro m hm; rw [sp_cnt_e (by omega)]; exact Nat.zero_le _
      | succ d ih =>
        intro m hm
        by_cases hme : m < aE i
        · have := ih (m + 1) (by omega)
          by_cases h47 : tT m = 47
          · rw [sp_cnt_at hme h47]; omega
          · rw [sp_cnt_no hme h47]; omega
        · rw [sp_cnt_e (by omega)]; exact Nat.zero_le _
    exact this _ m (Nat.le_refl _)
  have hk := hc (aS i)
  have key : ∀ d x g b, aE i - b ≤ d → b ≤ aE i → g ≤ b → x ≤ k → sp_eon tT (aE i) b = sp_eon tT (aE i) g → k - x ≤ sp_cnt tT (aE i) b → sp_nst tT (aE i) (k - x) g = sp_nst tT (aE i) k (aS i) → K18 x g b := by
    intro d
    induction d with
    | zero =>
      intro x g b hd hb hg hx he hq hI
      refine k18 x g b ?_
      unfold v_RL_nameStart_18
      refine ⟨h1, by omega, by omega, fun h => ?_, fun h => by omega⟩
      rw [sp_cnt_e h] at hq
      rw [show k - x = 0 by omega] at hI
      exact hI
    | succ d ih =>
      intro x g b hd hb hg hx he hq hI
      refine k18 x g b ?_
      unfold v_RL_nameStart_18
      refine ⟨h1, by omega, by omega, fun h => ?_, fun h => ⟨by omega, by omega, fun hkx => ?_, fun hkx => ⟨by omega, fun h47 => ?_, fun h47 => ?_⟩⟩⟩
      · rw [sp_cnt_e h] at hq
        rw [show k - x = 0 by omega] at hI
        exact hI
      · rw [show k - x = 0 by omega] at hI
        exact hI
      · exact ih x g (b + 1) (by omega) (by omega) (by omega) hx (by rw [← sp_eon_no (by omega) h47]; exact he) (by rw [← sp_cnt_no (by omega) h47]; exact hq) hI
      · rw [sp_cnt_at (by omega) h47] at hq
        have e1 : sp_eon tT (aE i) g = b := by rw [← he]; exact sp_eon_at (Or.inr h47)
        rw [show k - x = (k - (x + 1)) + 1 by omega, sp_nst, e1] at hI
        exact ih (x + 1) (b + 1) (b + 1) (by omega) (by omega) (Nat.le_refl _) (by omega) rfl (by omega) hI
  unfold v_RL_nameStart
  exact ⟨h1, h1, key _ 0 (aS i) (aS i) (Nat.le_refl _) h2 (Nat.le_refl _) (Nat.zero_le _) rfl h4 rfl⟩

def r_RL_nameEnd (tT : Nat → Int32) (aE : Nat → Nat) (i : Nat) (f : Nat) : Prop := i < 60 ∧ f ≤ aE i ∧ aE i ≤ 1000
def p_RL_nameEnd (tT : Nat → Int32) (aE : Nat → Nat) (i : Nat) (f : Nat) (r : Nat) : Prop := r = (sp_eon tT (aE i) f)
def v_RL_nameEnd (tT : Nat → Int32) (aE : Nat → Nat) (i : Nat) (f : Nat) (Q : Nat → Prop) : Prop := (i < 60) ∧ ((r_RL_endOfName tT f (aE i)) ∧ (Q (sp_eon tT (aE i) f)))
theorem t_RL_nameEnd (tT : Nat → Int32) (aE : Nat → Nat) (i : Nat) (f : Nat) (hr : r_RL_nameEnd tT aE i f)  : v_RL_nameEnd tT aE i f (p_RL_nameEnd tT aE i f) := by
  obtain ⟨h1, h2, h3⟩ := hr
  unfold v_RL_nameEnd
  exact ⟨h1, ⟨h2, h3⟩, rfl⟩
end
section
theorem kw_0_30 : Cond.fieldLink "IgnoreRules$RuleList" 15 "IgnoreRules$RuleList" "starts" "[I" ∈ ig_T := ig_T_mem (List.mem_append_left _ (List.mem_of_getElem? (i := 30) rfl)) rfl
theorem kw_0_32 : Cond.fieldLink "IgnoreRules$RuleList" 19 "IgnoreRules$RuleList" "ends" "[I" ∈ ig_T := ig_T_mem (List.mem_append_left _ (List.mem_of_getElem? (i := 32) rfl)) rfl
theorem kw_0_132 : Cond.methodLink "IgnoreRules$RuleList" 44 y_RL_endOfName ∈ ig_T := ig_T_mem (List.mem_append_left _ (List.mem_of_getElem? (i := 132) rfl)) rfl
theorem kw_0_134 : Cond.instanceMethod y_RL_endOfName ∈ ig_T := ig_T_mem (List.mem_append_left _ (List.mem_of_getElem? (i := 134) rfl)) rfl
theorem kw_0_141 : Cond.static y_IT_areWhole ∈ ig_T := ig_T_mem (List.mem_append_left _ (List.mem_of_getElem? (i := 141) rfl)) rfl
theorem d_RL_hasVoidName_0 : decode b_RL_hasVoidName 0 = .ok (.iload_n 1, 1) := by decide +kernel
theorem d_RL_hasVoidName_1 : decode b_RL_hasVoidName 1 = .ok (.istore_n 3, 1) := by decide +kernel
theorem d_RL_hasVoidName_2 : decode b_RL_hasVoidName 2 = .ok (.iload_n 1, 1) := by decide +kernel
theorem d_RL_hasVoidName_3 : decode b_RL_hasVoidName 3 = .ok (.istore 4, 2) := by decide +kernel
theorem d_RL_hasVoidName_5 : decode b_RL_hasVoidName 5 = .ok (.iload 4, 2) := by decide +kernel
theorem d_RL_hasVoidName_7 : decode b_RL_hasVoidName 7 = .ok (.iload_n 2, 1) := by decide +kernel
theorem d_RL_hasVoidName_8 : decode b_RL_hasVoidName 8 = .ok (.if_icmp .gt 47, 3) := by decide +kernel
theorem d_RL_hasVoidName_11 : decode b_RL_hasVoidName 11 = .ok (.iload 4, 2) := by decide +kernel
theorem d_RL_hasVoidName_13 : decode b_RL_hasVoidName 13 = .ok (.iload_n 2, 1) := by decide +kernel
theorem d_RL_hasVoidName_14 : decode b_RL_hasVoidName 14 = .ok (.if_icmp .eq 15, 3) := by decide +kernel
theorem d_RL_hasVoidName_17 : decode b_RL_hasVoidName 17 = .ok (.aload_n 0, 1) := by decide +kernel
theorem d_RL_hasVoidName_18 : decode b_RL_hasVoidName 18 = .ok (.getfield 9, 3) := by decide +kernel
theorem d_RL_hasVoidName_21 : decode b_RL_hasVoidName 21 = .ok (.iload 4, 2) := by decide +kernel
theorem d_RL_hasVoidName_23 : decode b_RL_hasVoidName 23 = .ok (.caload, 1) := by decide +kernel
theorem d_RL_hasVoidName_24 : decode b_RL_hasVoidName 24 = .ok (.bipush 47, 2) := by decide +kernel
theorem d_RL_hasVoidName_26 : decode b_RL_hasVoidName 26 = .ok (.if_icmp .ne 23, 3) := by decide +kernel
theorem d_RL_hasVoidName_29 : decode b_RL_hasVoidName 29 = .ok (.aload_n 0, 1) := by decide +kernel
theorem d_RL_hasVoidName_30 : decode b_RL_hasVoidName 30 = .ok (.getfield 9, 3) := by decide +kernel
theorem d_RL_hasVoidName_33 : decode b_RL_hasVoidName 33 = .ok (.iload_n 3, 1) := by decide +kernel
theorem d_RL_hasVoidName_34 : decode b_RL_hasVoidName 34 = .ok (.iload 4, 2) := by decide +kernel
theorem d_RL_hasVoidName_36 : decode b_RL_hasVoidName 36 = .ok (.invokestatic 50, 3) := by decide +kernel
theorem d_RL_hasVoidName_39 : decode b_RL_hasVoidName 39 = .ok (.ifCond .ne 5, 3) := by decide +kernel
theorem d_RL_hasVoidName_42 : decode b_RL_hasVoidName 42 = .ok (.iconst 1, 1) := by decide +kernel
theorem d_RL_hasVoidName_43 : decode b_RL_hasVoidName 43 = .ok (.ireturn, 1) := by decide +kernel
theorem d_RL_hasVoidName_44 : decode b_RL_hasVoidName 44 = .ok (.iload 4, 2) := by decide +kernel
theorem d_RL_hasVoidName_46 : decode b_RL_hasVoidName 46 = .ok (.iconst 1, 1) := by decide +kernel
theorem d_RL_hasVoidName_47 : decode b_RL_hasVoidName 47 = .ok (.iadd, 1) := by decide +kernel
theorem d_RL_hasVoidName_48 : decode b_RL_hasVoidName 48 = .ok (.istore_n 3, 1) := by decide +kernel
theorem d_RL_hasVoidName_49 : decode b_RL_hasVoidName 49 = .ok (.iinc 4 1, 3) := by decide +kernel
theorem d_RL_hasVoidName_52 : decode b_RL_hasVoidName 52 = .ok (.goto (-47), 3) := by decide +kernel
theorem d_RL_hasVoidName_55 : decode b_RL_hasVoidName 55 = .ok (.iconst 0, 1) := by decide +kernel
theorem d_RL_hasVoidName_56 : decode b_RL_hasVoidName 56 = .ok (.ireturn, 1) := by decide +kernel
abbrev w_RL_hasVoidName : List Cond := Cond.code y_RL_hasVoidName b_RL_hasVoidName 5 (some .boolean) :: ig_T
theorem g_RL_hasVoidName : GoodIn ig_T w_RL_hasVoidName := ig_T_good (ig_T_mem (List.mem_append_left _ (List.mem_of_getElem? (i := 139) rfl)) rfl)
set_option maxHeartbeats 4000000 in
set_option maxRecDepth 100000 in
theorem c_RL_hasVoidName (l : Launch) (dC : Nat → ClassId) (dI : Nat → Nat → Nat) (cC cI cZ cL : ClassId) (q0 qt qs qe qb ql : Nat) (nC : Int32) (tT : Nat → Int32) (f : Nat) (a : Nat) (sz : Nat) (hr : r_RL_hasVoidName tT f a) : Met l y_RL_hasVoidName w_RL_hasVoidName ({ frames := 2, cells := 0, slots := 0, locals := 49 }) (ig_Pc (dC, dI) ig_cl0 [(cC, .char), (cI, .int), (cZ, .boolean), (cL, .long)] [.ref q0, .int (nI f), .int (nI a)] [(q0, .inr (ciRL, [.ref qt, .ref qs, .ref qe, .ref qb, .ref ql, .int nC])), (qt, .inl (cC, 1000, .inl tT))] sz) (va_Qi (fun (r : Int32) (u : Unit) => ∃ zr : Bool, r = bI zr ∧ p_RL_hasVoidName tT f a zr ) (fun u t => va_P (dC, dI) ig_cl0 ((fun (u : Unit) => [(q0, .inr (ciRL, [.ref qt, .ref qs, .ref qe, .ref qb, .ref ql, .int nC])), (qt, .inl (cC, 1000, .inl tT))]) u) t.heap ∧ va_D (va_A [(q0, .inr (ciRL, [.ref qt, .ref qs, .ref qe, .ref qb, .ref ql, .int nC])), (qt, .inl (cC, 1000, .inl tT))] sz) ((fun (u : Unit) => [(q0, .inr (ciRL, [.ref qt, .ref qs, .ref qe, .ref qb, .ref ql, .int nC])), (qt, .inl (cC, 1000, .inl tT))]) u)) (va_A [(q0, .inr (ciRL, [.ref qt, .ref qs, .ref qe, .ref qb, .ref ql, .int nC])), (qt, .inl (cC, 1000, .inl tT))] sz)) 0 0 (va_A [(q0, .inr (ciRL, [.ref qt, .ref qs, .ref qe, .ref qb, .ref ql, .int nC])), (qt, .inl (cC, 1000, .inl tT))] sz) := by
  refine ig_metI (fun (r : Int32) (u : Unit) => ∃ zr : Bool, r = bI zr ∧ p_RL_hasVoidName tT f a zr ) (fun (u : Unit) => [(q0, .inr (ciRL, [.ref qt, .ref qs, .ref qe, .ref qb, .ref ql, .int nC])), (qt, .inl (cC, 1000, .inl tT))]) (by decide) rfl (Nat.le_of_ble_eq_true rfl) rfl (by rintro r u ⟨b, rfl, -⟩; exact bI_ret b) ?_
  intro zp ze zs zm zargs zbelow zmeth zc zA zQ hx hb hml hown hts hK hN hA hret
  obtain ⟨K5, hK5⟩ : ∃ K : Nat → Nat → Prop, K = fun (g : Nat) (b : Nat) => ig_W zp l ze ({ frames := 2, cells := 0, slots := 0, locals := 49 }) zs zm zargs zbelow zmeth zc (dC, dI) ig_cl0 zA zs.heap 5 0 0 zQ 5 [(0, .ref q0), (2, .int (nI a)), (3, .int (nI g)), (4, .int (nI b))] [] [(q0, .inr (ciRL, [.ref qt, .ref qs, .ref qe, .ref qb, .ref ql, .int nC])), (qt, .inl (cC, 1000, .inl tT))] := ⟨_, rfl⟩
  have j29 : ∀ (g : Nat) (b : Nat), v_RL_hasVoidName_29 tT f a K5 (p_RL_hasVoidName tT f a) g b → ig_W zp l ze ({ frames := 2, cells := 0, slots := 0, locals := 49 }) zs zm zargs zbelow zmeth zc (dC, dI) ig_cl0 zA zs.heap 5 0 0 zQ 29 [(0, .ref q0), (2, .int (nI a)), (3, .int (nI g)), (4, .int (nI b))] [] [(q0, .inr (ciRL, [.ref qt, .ref qs, .ref qe, .ref qb, .ref ql, .int nC])), (qt, .inl (cC, 1000, .inl tT))] := by
    intro g b hv
    unfold v_RL_hasVoidName_29 at hv
    refine ig_aload_n hx hb 0 d_RL_hasVoidName_29 rfl rfl ?_
    refine ig_get hx hb hts in_RL hown hK 0 rfl rfl 0 (by decide) (hts _ kw_0_27) (fun _ h => h) rfl d_RL_hasVoidName_30 ?_
    refine ig_iload_n hx hb 2 d_RL_hasVoidName_33 rfl rfl ?_
    refine ig_iload hx hb 3 d_RL_hasVoidName_34 rfl ?_
    obtain ⟨hc, hv⟩ := hv
    refine ig_cSNi (As := [.ref qt, .int (nI g), .int (nI b)]) (rest := []) (wr := [(q0, .inr (ciRL, [.ref qt, .ref qs, .ref qe, .ref qb, .ref ql, .int nC]))]) (ws' := fun u => [(q0, .inr (ciRL, [.ref qt, .ref qs, .ref qe, .ref qb, .ref ql, .int nC])), (qt, .inl (cC, 1000, .inl tT))]) hx hb hml hown hts hK hN hA (fun sz => c_IT_areWhole l dC dI cC cI cZ cL qt tT g b sz hc) ⟨va_cnB 3 hts g_IT_areWhole rfl rfl rfl (nk_4 hN) (hts _ kw_0_10) (by decide +kernel) (by decide), hts _ kw_0_141, trivial⟩ rfl rfl (Nat.le_of_ble_eq_true rfl) d_RL_hasVoidName_36 (by decide) [1] [0] [0, 1] rfl rfl (by decide) (by decide) (by decide) (fun _ => rfl) (fun _ => rfl) (fun r u hr => ?_)
    obtain ⟨rr, rfl, hr⟩ := hr
    unfold p_IT_areWhole at hr
    subst hr
    refine ig_if_neB (tgt := 44) hx hb (decide (g < b) && !sp_void tT b g) rfl d_RL_hasVoidName_39 (by decide) (fun h => ?_) (fun h => ?_)
    · have hv := hv.1 h
      refine ig_iload hx hb 3 d_RL_hasVoidName_44 rfl ?_
      refine ig_iconst (v := 1) hx hb d_RL_hasVoidName_46 (by decide) ?_
      refine ig_iaddN hx hb b 1 rfl rfl d_RL_hasVoidName_47 ?_
      refine ig_istore_n (lv' := [(3, .int (nI (b + 1))), (0, .ref q0), (2, .int (nI a)), (4, .int (nI b))]) hx hb d_RL_hasVoidName_48 rfl (by decide) rfl ?_
      refine ig_iinc (v := (nI (b + 1))) (lv' := [(4, .int (nI (b + 1))), (3, .int (nI (b + 1))), (0, .ref q0), (2, .int (nI a))]) hx hb 3 d_RL_hasVoidName_49 rfl (ig_inc b 1 (by decide)) (by decide) rfl ?_
      refine ig_goto (tgt := 5) hx hb d_RL_hasVoidName_52 (by decide) ?_
      refine ig_lv (lv' := [(0, .ref q0), (2, .int (nI a)), (3, .int (nI (b + 1))), (4, .int (nI (b + 1)))]) [2, 3, 1, 0] rfl ?_
      rw [hK5] at hv
      exact hv
    · have hv := hv.2 h
      refine ig_iconst (v := 1) hx hb d_RL_hasVoidName_42 (by decide) ?_
      exact hret 43 _ 1 () d_RL_hasVoidName_43 ⟨true, rfl, hv⟩
  have k5 : ∀ (g : Nat) (b : Nat), v_RL_hasVoidName_5 tT f a K5 (p_RL_hasVoidName tT f a) g b → K5 g b := by
    intro g b hv
    unfold v_RL_hasVoidName_5 at hv
    rw [hK5]
    show ig_W zp l ze ({ frames := 2, cells := 0, slots := 0, locals := 49 }) zs zm zargs zbelow zmeth zc (dC, dI) ig_cl0 zA zs.heap 5 0 0 zQ 5 [(0, .ref q0), (2, .int (nI a)), (3, .int (nI g)), (4, .int (nI b))] [] [(q0, .inr (ciRL, [.ref qt, .ref qs, .ref qe, .ref qb, .ref ql, .int nC])), (qt, .inl (cC, 1000, .inl tT))]
    refine ig_iload hx hb 3 d_RL_hasVoidName_5 rfl ?_
    refine ig_iload_n hx hb 1 d_RL_hasVoidName_7 rfl rfl ?_
    obtain ⟨h1, hv⟩ := hv
    obtain ⟨h2, hv⟩ := hv
    refine ig_icmp_gtN (tgt := 55) hx hb b a rfl rfl d_RL_hasVoidName_8 (by decide) h1 h2 (fun h => ?_) (fun h => ?_)
    · have hv := hv.1 h
      refine ig_iconst (v := 0) hx hb d_RL_hasVoidName_55 (by decide) ?_
      exact hret 56 _ 0 () d_RL_hasVoidName_56 ⟨false, rfl, hv⟩
    · have hv := hv.2 h
      refine ig_iload hx hb 3 d_RL_hasVoidName_11 rfl ?_
      refine ig_iload_n hx hb 1 d_RL_hasVoidName_13 rfl rfl ?_
      obtain ⟨h1, hv⟩ := hv
      obtain ⟨h2, hv⟩ := hv
      refine ig_icmp_eqN (tgt := 29) hx hb b a rfl rfl d_RL_hasVoidName_14 (by decide) h1 h2 (fun h => ?_) (fun h => ?_)
      · have hv := hv.1 h
        refine ig_lv (lv' := [(0, .ref q0), (2, .int (nI a)), (3, .int (nI g)), (4, .int (nI b))]) [0, 1, 2, 3] rfl ?_
        exact j29 _ _ hv
      · have hv := hv.2 h
        refine ig_aload_n hx hb 0 d_RL_hasVoidName_17 rfl rfl ?_
        refine ig_get hx hb hts in_RL hown hK 0 rfl rfl 0 (by decide) (hts _ kw_0_27) (fun _ h => h) rfl d_RL_hasVoidName_18 ?_
        refine ig_iload hx hb 3 d_RL_hasVoidName_21 rfl ?_
        obtain ⟨hc, hv⟩ := hv
        refine ig_cald (x := (tT b)) hx hb hK 1 0 rfl rfl b rfl hc (by decide) rfl d_RL_hasVoidName_23 ?_
        refine ig_bipush (v := 47) hx hb d_RL_hasVoidName_24 (by decide) ?_
        refine ig_icmp_ne (tgt := 49) hx hb d_RL_hasVoidName_26 (by decide) (fun h => ?_) (fun h => ?_)
        · have hv := hv.1 h
          refine ig_iinc (v := (nI (b + 1))) (lv' := [(4, .int (nI (b + 1))), (0, .ref q0), (2, .int (nI a)), (3, .int (nI g))]) hx hb 3 d_RL_hasVoidName_49 rfl (ig_inc b 1 (by decide)) (by decide) rfl ?_
          refine ig_goto (tgt := 5) hx hb d_RL_hasVoidName_52 (by decide) ?_
          refine ig_lv (lv' := [(0, .ref q0), (2, .int (nI a)), (3, .int (nI g)), (4, .int (nI (b + 1)))]) [1, 2, 3, 0] rfl ?_
          rw [hK5] at hv
          exact hv
        · have hv := hv.2 h
          refine ig_lv (lv' := [(0, .ref q0), (2, .int (nI a)), (3, .int (nI g)), (4, .int (nI b))]) [0, 1, 2, 3] rfl ?_
          exact j29 _ _ hv
  have hv := t_RL_hasVoidName tT f a hr K5 k5
  unfold v_RL_hasVoidName at hv
  refine ig_iload_n hx hb 1 d_RL_hasVoidName_0 rfl rfl ?_
  refine ig_istore_n (lv' := [(3, .int (nI f)), (0, .ref q0), (1, .int (nI f)), (2, .int (nI a))]) hx hb d_RL_hasVoidName_1 rfl (by decide) rfl ?_
  refine ig_iload_n hx hb 2 d_RL_hasVoidName_2 rfl rfl ?_
  refine ig_istore (lv' := [(4, .int (nI f)), (3, .int (nI f)), (0, .ref q0), (1, .int (nI f)), (2, .int (nI a))]) hx hb d_RL_hasVoidName_3 (by decide) rfl ?_
  refine ig_lv (lv' := [(0, .ref q0), (2, .int (nI a)), (3, .int (nI f)), (4, .int (nI f))]) [2, 4, 1, 0] rfl ?_
  rw [hK5] at hv
  exact hv
theorem d_RL_countNames_0 : decode b_RL_countNames 0 = .ok (.iconst 1, 1) := by decide +kernel
theorem d_RL_countNames_1 : decode b_RL_countNames 1 = .ok (.istore_n 2, 1) := by decide +kernel
theorem d_RL_countNames_2 : decode b_RL_countNames 2 = .ok (.aload_n 0, 1) := by decide +kernel
theorem d_RL_countNames_3 : decode b_RL_countNames 3 = .ok (.getfield 15, 3) := by decide +kernel
theorem d_RL_countNames_6 : decode b_RL_countNames 6 = .ok (.iload_n 1, 1) := by decide +kernel
theorem d_RL_countNames_7 : decode b_RL_countNames 7 = .ok (.iaload, 1) := by decide +kernel
theorem d_RL_countNames_8 : decode b_RL_countNames 8 = .ok (.istore_n 3, 1) := by decide +kernel
theorem d_RL_countNames_9 : decode b_RL_countNames 9 = .ok (.iload_n 3, 1) := by decide +kernel
theorem d_RL_countNames_10 : decode b_RL_countNames 10 = .ok (.aload_n 0, 1) := by decide +kernel
theorem d_RL_countNames_11 : decode b_RL_countNames 11 = .ok (.getfield 19, 3) := by decide +kernel
theorem d_RL_countNames_14 : decode b_RL_countNames 14 = .ok (.iload_n 1, 1) := by decide +kernel
theorem d_RL_countNames_15 : decode b_RL_countNames 15 = .ok (.iaload, 1) := by decide +kernel
theorem d_RL_countNames_16 : decode b_RL_countNames 16 = .ok (.if_icmp .ge 23, 3) := by decide +kernel
theorem d_RL_countNames_19 : decode b_RL_countNames 19 = .ok (.aload_n 0, 1) := by decide +kernel
theorem d_RL_countNames_20 : decode b_RL_countNames 20 = .ok (.getfield 9, 3) := by decide +kernel
theorem d_RL_countNames_23 : decode b_RL_countNames 23 = .ok (.iload_n 3, 1) := by decide +kernel
theorem d_RL_countNames_24 : decode b_RL_countNames 24 = .ok (.caload, 1) := by decide +kernel
theorem d_RL_countNames_25 : decode b_RL_countNames 25 = .ok (.bipush 47, 2) := by decide +kernel
theorem d_RL_countNames_27 : decode b_RL_countNames 27 = .ok (.if_icmp .ne 6, 3) := by decide +kernel
theorem d_RL_countNames_30 : decode b_RL_countNames 30 = .ok (.iinc 2 1, 3) := by decide +kernel
theorem d_RL_countNames_33 : decode b_RL_countNames 33 = .ok (.iinc 3 1, 3) := by decide +kernel
theorem d_RL_countNames_36 : decode b_RL_countNames 36 = .ok (.goto (-27), 3) := by decide +kernel
theorem d_RL_countNames_39 : decode b_RL_countNames 39 = .ok (.iload_n 2, 1) := by decide +kernel
theorem d_RL_countNames_40 : decode b_RL_countNames 40 = .ok (.ireturn, 1) := by decide +kernel
abbrev w_RL_countNames : List Cond := Cond.code y_RL_countNames b_RL_countNames 4 (some .int) :: ig_T
theorem g_RL_countNames : GoodIn ig_T w_RL_countNames := ig_T_good (ig_T_mem (List.mem_append_right _ (List.mem_append_left _ (List.mem_of_getElem? (i := 22) rfl))) rfl)
set_option maxHeartbeats 4000000 in
set_option maxRecDepth 100000 in
theorem c_RL_countNames (l : Launch) (dC : Nat → ClassId) (dI : Nat → Nat → Nat) (cC cI cZ cL : ClassId) (q0 qt qs qe qb ql : Nat) (nC : Int32) (tT : Nat → Int32) (aS : Nat → Nat) (aE : Nat → Nat) (i : Nat) (sz : Nat) (hr : r_RL_countNames tT aS aE i) : Met l y_RL_countNames w_RL_countNames ({ frames := 0, cells := 0, slots := 0, locals := 0 }) (ig_Pc (dC, dI) ig_cl0 [(cC, .char), (cI, .int), (cZ, .boolean), (cL, .long)] [.ref q0, .int (nI i)] [(q0, .inr (ciRL, [.ref qt, .ref qs, .ref qe, .ref qb, .ref ql, .int nC])), (qt, .inl (cC, 1000, .inl tT)), (qs, .inl (cI, 60, .inl (fun j => nI (aS j)))), (qe, .inl (cI, 60, .inl (fun j => nI (aE j))))] sz) (va_Qi (fun (r : Int32) (u : Unit) => ∃ zr : Nat, r = nI zr ∧ p_RL_countNames tT aS aE i zr ) (fun u t => va_P (dC, dI) ig_cl0 ((fun (u : Unit) => [(q0, .inr (ciRL, [.ref qt, .ref qs, .ref qe, .ref qb, .ref ql, .int nC])), (qt, .inl (cC, 1000, .inl tT)), (qs, .inl (cI, 60, .inl (fun j => nI (aS j)))), (qe, .inl (cI, 60, .inl (fun j => nI (aE j))))]) u) t.heap ∧ va_D (va_A [(q0, .inr (ciRL, [.ref qt, .ref qs, .ref qe, .ref qb, .ref ql, .int nC])), (qt, .inl (cC, 1000, .inl tT)), (qs, .inl (cI, 60, .inl (fun j => nI (aS j)))), (qe, .inl (cI, 60, .inl (fun j => nI (aE j))))] sz) ((fun (u : Unit) => [(q0, .inr (ciRL, [.ref qt, .ref qs, .ref qe, .ref qb, .ref ql, .int nC])), (qt, .inl (cC, 1000, .inl tT)), (qs, .inl (cI, 60, .inl (fun j => nI (aS j)))), (qe, .inl (cI, 60, .inl (fun j => nI (aE j))))]) u)) (va_A [(q0, .inr (ciRL, [.ref qt, .ref qs, .ref qe, .ref qb, .ref ql, .int nC])), (qt, .inl (cC, 1000, .inl tT)), (qs, .inl (cI, 60, .inl (fun j => nI (aS j)))), (qe, .inl (cI, 60, .inl (fun j => nI (aE j))))] sz)) 0 0 (va_A [(q0, .inr (ciRL, [.ref qt, .ref qs, .ref qe, .ref qb, .ref ql, .int nC])), (qt, .inl (cC, 1000, .inl tT)), (qs, .inl (cI, 60, .inl (fun j => nI (aS j)))), (qe, .inl (cI, 60, .inl (fun j => nI (aE j))))] sz) := by
  refine ig_metI (fun (r : Int32) (u : Unit) => ∃ zr : Nat, r = nI zr ∧ p_RL_countNames tT aS aE i zr ) (fun (u : Unit) => [(q0, .inr (ciRL, [.ref qt, .ref qs, .ref qe, .ref qb, .ref ql, .int nC])), (qt, .inl (cC, 1000, .inl tT)), (qs, .inl (cI, 60, .inl (fun j => nI (aS j)))), (qe, .inl (cI, 60, .inl (fun j => nI (aE j))))]) (by decide) rfl (Nat.le_of_ble_eq_true rfl) rfl (fun _ _ _ => rfl) ?_
  intro zp ze zs zm zargs zbelow zmeth zc zA zQ hx hb hml hown hts hK hN hA hret
  obtain ⟨K9, hK9⟩ : ∃ K : Nat → Nat → Prop, K = fun (x : Nat) (b : Nat) => ig_W zp l ze ({ frames := 0, cells := 0, slots := 0, locals := 0 }) zs zm zargs zbelow zmeth zc (dC, dI) ig_cl0 zA zs.heap 4 0 0 zQ 9 [(0, .ref q0), (1, .int (nI i)), (2, .int (nI x)), (3, .int (nI b))] [] [(q0, .inr (ciRL, [.ref qt, .ref qs, .ref qe, .ref qb, .ref ql, .int nC])), (qt, .inl (cC, 1000, .inl tT)), (qs, .inl (cI, 60, .inl (fun j => nI (aS j)))), (qe, .inl (cI, 60, .inl (fun j => nI (aE j))))] := ⟨_, rfl⟩
  have k9 : ∀ (x : Nat) (b : Nat), v_RL_countNames_9 tT aS aE i K9 (p_RL_countNames tT aS aE i) x b → K9 x b := by
    intro x b hv
    unfold v_RL_countNames_9 at hv
    rw [hK9]
    show ig_W zp l ze ({ frames := 0, cells := 0, slots := 0, locals := 0 }) zs zm zargs zbelow zmeth zc (dC, dI) ig_cl0 zA zs.heap 4 0 0 zQ 9 [(0, .ref q0), (1, .int (nI i)), (2, .int (nI x)), (3, .int (nI b))] [] [(q0, .inr (ciRL, [.ref qt, .ref qs, .ref qe, .ref qb, .ref ql, .int nC])), (qt, .inl (cC, 1000, .inl tT)), (qs, .inl (cI, 60, .inl (fun j => nI (aS j)))), (qe, .inl (cI, 60, .inl (fun j => nI (aE j))))]
    refine ig_iload_n hx hb 3 d_RL_countNames_9 rfl rfl ?_
    refine ig_aload_n hx hb 0 d_RL_countNames_10 rfl rfl ?_
    refine ig_get hx hb hts in_RL hown hK 0 rfl rfl 2 (by decide) (hts _ kw_0_32) (fun _ h => h) rfl d_RL_countNames_11 ?_
    refine ig_iload_n hx hb 1 d_RL_countNames_14 rfl rfl ?_
    obtain ⟨hc, hv⟩ := hv
    refine ig_iald (x := (nI (aE i))) hx hb hK 3 1 rfl rfl i rfl hc (by decide) rfl d_RL_countNames_15 ?_
    obtain ⟨h1, hv⟩ := hv
    obtain ⟨h2, hv⟩ := hv
    refine ig_icmp_geN (tgt := 39) hx hb b (aE i) rfl rfl d_RL_countNames_16 (by decide) h1 h2 (fun h => ?_) (fun h => ?_)
    · have hv := hv.1 h
      refine ig_iload_n hx hb 2 d_RL_countNames_39 rfl rfl ?_
      exact hret 40 _ (nI x) () d_RL_countNames_40 ⟨x, rfl, hv⟩
    · have hv := hv.2 h
      refine ig_aload_n hx hb 0 d_RL_countNames_19 rfl rfl ?_
      refine ig_get hx hb hts in_RL hown hK 0 rfl rfl 0 (by decide) (hts _ kw_0_27) (fun _ h => h) rfl d_RL_countNames_20 ?_
      refine ig_iload_n hx hb 3 d_RL_countNames_23 rfl rfl ?_
      obtain ⟨hc, hv⟩ := hv
      refine ig_cald (x := (tT b)) hx hb hK 1 0 rfl rfl b rfl hc (by decide) rfl d_RL_countNames_24 ?_
      refine ig_bipush (v := 47) hx hb d_RL_countNames_25 (by decide) ?_
      refine ig_icmp_ne (tgt := 33) hx hb d_RL_countNames_27 (by decide) (fun h => ?_) (fun h => ?_)
      · have hv := hv.1 h
        refine ig_iinc (v := (nI (b + 1))) (lv' := [(3, .int (nI (b + 1))), (0, .ref q0), (1, .int (nI i)), (2, .int (nI x))]) hx hb 3 d_RL_countNames_33 rfl (ig_inc b 1 (by decide)) (by decide) rfl ?_
        refine ig_goto (tgt := 9) hx hb d_RL_countNames_36 (by decide) ?_
        refine ig_lv (lv' := [(0, .ref q0), (1, .int (nI i)), (2, .int (nI x)), (3, .int (nI (b + 1)))]) [1, 2, 3, 0] rfl ?_
        rw [hK9] at hv
        exact hv
      · have hv := hv.2 h
        refine ig_iinc (v := (nI (x + 1))) (lv' := [(2, .int (nI (x + 1))), (0, .ref q0), (1, .int (nI i)), (3, .int (nI b))]) hx hb 2 d_RL_countNames_30 rfl (ig_inc x 1 (by decide)) (by decide) rfl ?_
        refine ig_iinc (v := (nI (b + 1))) (lv' := [(3, .int (nI (b + 1))), (2, .int (nI (x + 1))), (0, .ref q0), (1, .int (nI i))]) hx hb 3 d_RL_countNames_33 rfl (ig_inc b 1 (by decide)) (by decide) rfl ?_
        refine ig_goto (tgt := 9) hx hb d_RL_countNames_36 (by decide) ?_
        refine ig_lv (lv' := [(0, .ref q0), (1, .int (nI i)), (2, .int (nI (x + 1))), (3, .int (nI (b + 1)))]) [2, 3, 1, 0] rfl ?_
        rw [hK9] at hv
        exact hv
  have hv := t_RL_countNames tT aS aE i hr K9 k9
  unfold v_RL_countNames at hv
  refine ig_iconst (v := 1) hx hb d_RL_countNames_0 (by decide) ?_
  refine ig_istore_n (lv' := [(2, .int 1), (0, .ref q0), (1, .int (nI i))]) hx hb d_RL_countNames_1 rfl (by decide) rfl ?_
  refine ig_aload_n hx hb 1 d_RL_countNames_2 rfl rfl ?_
  refine ig_get hx hb hts in_RL hown hK 0 rfl rfl 1 (by decide) (hts _ kw_0_30) (fun _ h => h) rfl d_RL_countNames_3 ?_
  refine ig_iload_n hx hb 2 d_RL_countNames_6 rfl rfl ?_
  obtain ⟨hc, hv⟩ := hv
  refine ig_iald (x := (nI (aS i))) hx hb hK 2 1 rfl rfl i rfl hc (by decide) rfl d_RL_countNames_7 ?_
  refine ig_istore_n (lv' := [(3, .int (nI (aS i))), (2, .int 1), (0, .ref q0), (1, .int (nI i))]) hx hb d_RL_countNames_8 rfl (by decide) rfl ?_
  refine ig_lv (lv' := [(0, .ref q0), (1, .int (nI i)), (2, .int 1), (3, .int (nI (aS i)))]) [2, 3, 1, 0] rfl ?_
  rw [hK9] at hv
  exact hv
theorem d_RL_nameStart_0 : decode b_RL_nameStart 0 = .ok (.iconst 0, 1) := by decide +kernel
theorem d_RL_nameStart_1 : decode b_RL_nameStart 1 = .ok (.istore_n 3, 1) := by decide +kernel
theorem d_RL_nameStart_2 : decode b_RL_nameStart 2 = .ok (.aload_n 0, 1) := by decide +kernel
theorem d_RL_nameStart_3 : decode b_RL_nameStart 3 = .ok (.getfield 15, 3) := by decide +kernel
theorem d_RL_nameStart_6 : decode b_RL_nameStart 6 = .ok (.iload_n 1, 1) := by decide +kernel
theorem d_RL_nameStart_7 : decode b_RL_nameStart 7 = .ok (.iaload, 1) := by decide +kernel
theorem d_RL_nameStart_8 : decode b_RL_nameStart 8 = .ok (.istore 4, 2) := by decide +kernel
theorem d_RL_nameStart_10 : decode b_RL_nameStart 10 = .ok (.aload_n 0, 1) := by decide +kernel
theorem d_RL_nameStart_11 : decode b_RL_nameStart 11 = .ok (.getfield 15, 3) := by decide +kernel
theorem d_RL_nameStart_14 : decode b_RL_nameStart 14 = .ok (.iload_n 1, 1) := by decide +kernel
theorem d_RL_nameStart_15 : decode b_RL_nameStart 15 = .ok (.iaload, 1) := by decide +kernel
theorem d_RL_nameStart_16 : decode b_RL_nameStart 16 = .ok (.istore 5, 2) := by decide +kernel
theorem d_RL_nameStart_18 : decode b_RL_nameStart 18 = .ok (.iload 5, 2) := by decide +kernel
theorem d_RL_nameStart_20 : decode b_RL_nameStart 20 = .ok (.aload_n 0, 1) := by decide +kernel
theorem d_RL_nameStart_21 : decode b_RL_nameStart 21 = .ok (.getfield 19, 3) := by decide +kernel
theorem d_RL_nameStart_24 : decode b_RL_nameStart 24 = .ok (.iload_n 1, 1) := by decide +kernel
theorem d_RL_nameStart_25 : decode b_RL_nameStart 25 = .ok (.iaload, 1) := by decide +kernel
theorem d_RL_nameStart_26 : decode b_RL_nameStart 26 = .ok (.if_icmp .ge 35, 3) := by decide +kernel
theorem d_RL_nameStart_29 : decode b_RL_nameStart 29 = .ok (.iload_n 3, 1) := by decide +kernel
theorem d_RL_nameStart_30 : decode b_RL_nameStart 30 = .ok (.iload_n 2, 1) := by decide +kernel
theorem d_RL_nameStart_31 : decode b_RL_nameStart 31 = .ok (.if_icmp .ge 30, 3) := by decide +kernel
theorem d_RL_nameStart_34 : decode b_RL_nameStart 34 = .ok (.aload_n 0, 1) := by decide +kernel
theorem d_RL_nameStart_35 : decode b_RL_nameStart 35 = .ok (.getfield 9, 3) := by decide +kernel
theorem d_RL_nameStart_38 : decode b_RL_nameStart 38 = .ok (.iload 5, 2) := by decide +kernel
theorem d_RL_nameStart_40 : decode b_RL_nameStart 40 = .ok (.caload, 1) := by decide +kernel
theorem d_RL_nameStart_41 : decode b_RL_nameStart 41 = .ok (.bipush 47, 2) := by decide +kernel
theorem d_RL_nameStart_43 : decode b_RL_nameStart 43 = .ok (.if_icmp .ne 12, 3) := by decide +kernel
theorem d_RL_nameStart_46 : decode b_RL_nameStart 46 = .ok (.iinc 3 1, 3) := by decide +kernel
theorem d_RL_nameStart_49 : decode b_RL_nameStart 49 = .ok (.iload 5, 2) := by decide +kernel
theorem d_RL_nameStart_51 : decode b_RL_nameStart 51 = .ok (.iconst 1, 1) := by decide +kernel
theorem d_RL_nameStart_52 : decode b_RL_nameStart 52 = .ok (.iadd, 1) := by decide +kernel
theorem d_RL_nameStart_53 : decode b_RL_nameStart 53 = .ok (.istore 4, 2) := by decide +kernel
theorem d_RL_nameStart_55 : decode b_RL_nameStart 55 = .ok (.iinc 5 1, 3) := by decide +kernel
theorem d_RL_nameStart_58 : decode b_RL_nameStart 58 = .ok (.goto (-40), 3) := by decide +kernel
theorem d_RL_nameStart_61 : decode b_RL_nameStart 61 = .ok (.iload 4, 2) := by decide +kernel
theorem d_RL_nameStart_63 : decode b_RL_nameStart 63 = .ok (.ireturn, 1) := by decide +kernel
abbrev w_RL_nameStart : List Cond := Cond.code y_RL_nameStart b_RL_nameStart 6 (some .int) :: ig_T
theorem g_RL_nameStart : GoodIn ig_T w_RL_nameStart := ig_T_good (ig_T_mem (List.mem_append_right _ (List.mem_append_left _ (List.mem_of_getElem? (i := 133) rfl))) rfl)
set_option maxHeartbeats 4000000 in
set_option maxRecDepth 100000 in
theorem c_RL_nameStart (l : Launch) (dC : Nat → ClassId) (dI : Nat → Nat → Nat) (cC cI cZ cL : ClassId) (q0 qt qs qe qb ql : Nat) (nC : Int32) (tT : Nat → Int32) (aS : Nat → Nat) (aE : Nat → Nat) (i : Nat) (k : Nat) (sz : Nat) (hr : r_RL_nameStart tT aS aE i k) : Met l y_RL_nameStart w_RL_nameStart ({ frames := 0, cells := 0, slots := 0, locals := 0 }) (ig_Pc (dC, dI) ig_cl0 [(cC, .char), (cI, .int), (cZ, .boolean), (cL, .long)] [.ref q0, .int (nI i), .int (nI k)] [(q0, .inr (ciRL, [.ref qt, .ref qs, .ref qe, .ref qb, .ref ql, .int nC])), (qt, .inl (cC, 1000, .inl tT)), (qs, .inl (cI, 60, .inl (fun j => nI (aS j)))), (qe, .inl (cI, 60, .inl (fun j => nI (aE j))))] sz) (va_Qi (fun (r : Int32) (u : Unit) => ∃ zr : Nat, r = nI zr ∧ p_RL_nameStart tT aS aE i k zr ) (fun u t => va_P (dC, dI) ig_cl0 ((fun (u : Unit) => [(q0, .inr (ciRL, [.ref qt, .ref qs, .ref qe, .ref qb, .ref ql, .int nC])), (qt, .inl (cC, 1000, .inl tT)), (qs, .inl (cI, 60, .inl (fun j => nI (aS j)))), (qe, .inl (cI, 60, .inl (fun j => nI (aE j))))]) u) t.heap ∧ va_D (va_A [(q0, .inr (ciRL, [.ref qt, .ref qs, .ref qe, .ref qb, .ref ql, .int nC])), (qt, .inl (cC, 1000, .inl tT)), (qs, .inl (cI, 60, .inl (fun j => nI (aS j)))), (qe, .inl (cI, 60, .inl (fun j => nI (aE j))))] sz) ((fun (u : Unit) => [(q0, .inr (ciRL, [.ref qt, .ref qs, .ref qe, .ref qb, .ref ql, .int nC])), (qt, .inl (cC, 1000, .inl tT)), (qs, .inl (cI, 60, .inl (fun j => nI (aS j)))), (qe, .inl (cI, 60, .inl (fun j => nI (aE j))))]) u)) (va_A [(q0, .inr (ciRL, [.ref qt, .ref qs, .ref qe, .ref qb, .ref ql, .int nC])), (qt, .inl (cC, 1000, .inl tT)), (qs, .inl (cI, 60, .inl (fun j => nI (aS j)))), (qe, .inl (cI, 60, .inl (fun j => nI (aE j))))] sz)) 0 0 (va_A [(q0, .inr (ciRL, [.ref qt, .ref qs, .ref qe, .ref qb, .ref ql, .int nC])), (qt, .inl (cC, 1000, .inl tT)), (qs, .inl (cI, 60, .inl (fun j => nI (aS j)))), (qe, .inl (cI, 60, .inl (fun j => nI (aE j))))] sz) := by
  refine ig_metI (fun (r : Int32) (u : Unit) => ∃ zr : Nat, r = nI zr ∧ p_RL_nameStart tT aS aE i k zr ) (fun (u : Unit) => [(q0, .inr (ciRL, [.ref qt, .ref qs, .ref qe, .ref qb, .ref ql, .int nC])), (qt, .inl (cC, 1000, .inl tT)), (qs, .inl (cI, 60, .inl (fun j => nI (aS j)))), (qe, .inl (cI, 60, .inl (fun j => nI (aE j))))]) (by decide) rfl (Nat.le_of_ble_eq_true rfl) rfl (fun _ _ _ => rfl) ?_
  intro zp ze zs zm zargs zbelow zmeth zc zA zQ hx hb hml hown hts hK hN hA hret
  obtain ⟨K18, hK18⟩ : ∃ K : Nat → Nat → Nat → Prop, K = fun (x : Nat) (g : Nat) (b : Nat) => ig_W zp l ze ({ frames := 0, cells := 0, slots := 0, locals := 0 }) zs zm zargs zbelow zmeth zc (dC, dI) ig_cl0 zA zs.heap 6 0 0 zQ 18 [(0, .ref q0), (1, .int (nI i)), (2, .int (nI k)), (3, .int (nI x)), (4, .int (nI g)), (5, .int (nI b))] [] [(q0, .inr (ciRL, [.ref qt, .ref qs, .ref qe, .ref qb, .ref ql, .int nC])), (qt, .inl (cC, 1000, .inl tT)), (qs, .inl (cI, 60, .inl (fun j => nI (aS j)))), (qe, .inl (cI, 60, .inl (fun j => nI (aE j))))] := ⟨_, rfl⟩
  have k18 : ∀ (x : Nat) (g : Nat) (b : Nat), v_RL_nameStart_18 tT aS aE i k K18 (p_RL_nameStart tT aS aE i k) x g b → K18 x g b := by
    intro x g b hv
    unfold v_RL_nameStart_18 at hv
    rw [hK18]
    show ig_W zp l ze ({ frames := 0, cells := 0, slots := 0, locals := 0 }) zs zm zargs zbelow zmeth zc (dC, dI) ig_cl0 zA zs.heap 6 0 0 zQ 18 [(0, .ref q0), (1, .int (nI i)), (2, .int (nI k)), (3, .int (nI x)), (4, .int (nI g)), (5, .int (nI b))] [] [(q0, .inr (ciRL, [.ref qt, .ref qs, .ref qe, .ref qb, .ref ql, .int nC])), (qt, .inl (cC, 1000, .inl tT)), (qs, .inl (cI, 60, .inl (fun j => nI (aS j)))), (qe, .inl (cI, 60, .inl (fun j => nI (aE j))))]
    refine ig_iload hx hb 5 d_RL_nameStart_18 rfl ?_
    refine ig_aload_n hx hb 0 d_RL_nameStart_20 rfl rfl ?_
    refine ig_get hx hb hts in_RL hown hK 0 rfl rfl 2 (by decide) (hts _ kw_0_32) (fun _ h => h) rfl d_RL_nameStart_21 ?_
    refine ig_iload_n hx hb 1 d_RL_nameStart_24 rfl rfl ?_
    obtain ⟨hc, hv⟩ := hv
    refine ig_iald (x := (nI (aE i))) hx hb hK 3 1 rfl rfl i rfl hc (by decide) rfl d_RL_nameStart_25 ?_
    obtain ⟨h1, hv⟩ := hv
    obtain ⟨h2, hv⟩ := hv
    refine ig_icmp_geN (tgt := 61) hx hb b (aE i) rfl rfl d_RL_nameStart_26 (by decide) h1 h2 (fun h => ?_) (fun h => ?_)
    · have hv := hv.1 h
      refine ig_iload hx hb 4 d_RL_nameStart_61 rfl ?_
      exact hret 63 _ (nI g) () d_RL_nameStart_63 ⟨g, rfl, hv⟩
    · have hv := hv.2 h
      refine ig_iload_n hx hb 3 d_RL_nameStart_29 rfl rfl ?_
      refine ig_iload_n hx hb 2 d_RL_nameStart_30 rfl rfl ?_
      obtain ⟨h1, hv⟩ := hv
      obtain ⟨h2, hv⟩ := hv
      refine ig_icmp_geN (tgt := 61) hx hb x k rfl rfl d_RL_nameStart_31 (by decide) h1 h2 (fun h => ?_) (fun h => ?_)
      · have hv := hv.1 h
        refine ig_iload hx hb 4 d_RL_nameStart_61 rfl ?_
        exact hret 63 _ (nI g) () d_RL_nameStart_63 ⟨g, rfl, hv⟩
      · have hv := hv.2 h
        refine ig_aload_n hx hb 0 d_RL_nameStart_34 rfl rfl ?_
        refine ig_get hx hb hts in_RL hown hK 0 rfl rfl 0 (by decide) (hts _ kw_0_27) (fun _ h => h) rfl d_RL_nameStart_35 ?_
        refine ig_iload hx hb 5 d_RL_nameStart_38 rfl ?_
        obtain ⟨hc, hv⟩ := hv
        refine ig_cald (x := (tT b)) hx hb hK 1 0 rfl rfl b rfl hc (by decide) rfl d_RL_nameStart_40 ?_
        refine ig_bipush (v := 47) hx hb d_RL_nameStart_41 (by decide) ?_
        refine ig_icmp_ne (tgt := 55) hx hb d_RL_nameStart_43 (by decide) (fun h => ?_) (fun h => ?_)
        · have hv := hv.1 h
          refine ig_iinc (v := (nI (b + 1))) (lv' := [(5, .int (nI (b + 1))), (0, .ref q0), (1, .int (nI i)), (2, .int (nI k)), (3, .int (nI x)), (4, .int (nI g))]) hx hb 5 d_RL_nameStart_55 rfl (ig_inc b 1 (by decide)) (by decide) rfl ?_
          refine ig_goto (tgt := 18) hx hb d_RL_nameStart_58 (by decide) ?_
          refine ig_lv (lv' := [(0, .ref q0), (1, .int (nI i)), (2, .int (nI k)), (3, .int (nI x)), (4, .int (nI g)), (5, .int (nI (b + 1)))]) [1, 2, 3, 4, 5, 0] rfl ?_
          rw [hK18] at hv
          exact hv
        · have hv := hv.2 h
          refine ig_iinc (v := (nI (x + 1))) (lv' := [(3, .int (nI (x + 1))), (0, .ref q0), (1, .int (nI i)), (2, .int (nI k)), (4, .int (nI g)), (5, .int (nI b))]) hx hb 3 d_RL_nameStart_46 rfl (ig_inc x 1 (by decide)) (by decide) rfl ?_
          refine ig_iload hx hb 5 d_RL_nameStart_49 rfl ?_
          refine ig_iconst (v := 1) hx hb d_RL_nameStart_51 (by decide) ?_
          refine ig_iaddN hx hb b 1 rfl rfl d_RL_nameStart_52 ?_
          refine ig_istore (lv' := [(4, .int (nI (b + 1))), (3, .int (nI (x + 1))), (0, .ref q0), (1, .int (nI i)), (2, .int (nI k)), (5, .int (nI b))]) hx hb d_RL_nameStart_53 (by decide) rfl ?_
          refine ig_iinc (v := (nI (b + 1))) (lv' := [(5, .int (nI (b + 1))), (4, .int (nI (b + 1))), (3, .int (nI (x + 1))), (0, .ref q0), (1, .int (nI i)), (2, .int (nI k))]) hx hb 5 d_RL_nameStart_55 rfl (ig_inc b 1 (by decide)) (by decide) rfl ?_
          refine ig_goto (tgt := 18) hx hb d_RL_nameStart_58 (by decide) ?_
          refine ig_lv (lv' := [(0, .ref q0), (1, .int (nI i)), (2, .int (nI k)), (3, .int (nI (x + 1))), (4, .int (nI (b + 1))), (5, .int (nI (b + 1)))]) [3, 4, 5, 2, 1, 0] rfl ?_
          rw [hK18] at hv
          exact hv
  have hv := t_RL_nameStart tT aS aE i k hr K18 k18
  unfold v_RL_nameStart at hv
  refine ig_iconst (v := 0) hx hb d_RL_nameStart_0 (by decide) ?_
  refine ig_istore_n (lv' := [(3, .int 0), (0, .ref q0), (1, .int (nI i)), (2, .int (nI k))]) hx hb d_RL_nameStart_1 rfl (by decide) rfl ?_
  refine ig_aload_n hx hb 1 d_RL_nameStart_2 rfl rfl ?_
  refine ig_get hx hb hts in_RL hown hK 0 rfl rfl 1 (by decide) (hts _ kw_0_30) (fun _ h => h) rfl d_RL_nameStart_3 ?_
  refine ig_iload_n hx hb 2 d_RL_nameStart_6 rfl rfl ?_
  obtain ⟨hc, hv⟩ := hv
  refine ig_iald (x := (nI (aS i))) hx hb hK 2 1 rfl rfl i rfl hc (by decide) rfl d_RL_nameStart_7 ?_
  refine ig_istore (lv' := [(4, .int (nI (aS i))), (3, .int 0), (0, .ref q0), (1, .int (nI i)), (2, .int (nI k))]) hx hb d_RL_nameStart_8 (by decide) rfl ?_
  refine ig_aload_n hx hb 2 d_RL_nameStart_10 rfl rfl ?_
  refine ig_get hx hb hts in_RL hown hK 0 rfl rfl 1 (by decide) (hts _ kw_0_30) (fun _ h => h) rfl d_RL_nameStart_11 ?_
  refine ig_iload_n hx hb 3 d_RL_nameStart_14 rfl rfl ?_
  obtain ⟨hc, hv⟩ := hv
  refine ig_iald (x := (nI (aS i))) hx hb hK 2 1 rfl rfl i rfl hc (by decide) rfl d_RL_nameStart_15 ?_
  refine ig_istore (lv' := [(5, .int (nI (aS i))), (4, .int (nI (aS i))), (3, .int 0), (0, .ref q0), (1, .int (nI i)), (2, .int (nI k))]) hx hb d_RL_nameStart_16 (by decide) rfl ?_
  refine ig_lv (lv' := [(0, .ref q0), (1, .int (nI i)), (2, .int (nI k)), (3, .int 0), (4, .int (nI (aS i))), (5, .int (nI (aS i)))]) [3, 4, 5, 2, 1, 0] rfl ?_
  rw [hK18] at hv
  exact hv
theorem d_RL_nameEnd_0 : decode b_RL_nameEnd 0 = .ok (.aload_n 0, 1) := by decide +kernel
theorem d_RL_nameEnd_1 : decode b_RL_nameEnd 1 = .ok (.iload_n 2, 1) := by decide +kernel
theorem d_RL_nameEnd_2 : decode b_RL_nameEnd 2 = .ok (.aload_n 0, 1) := by decide +kernel
theorem d_RL_nameEnd_3 : decode b_RL_nameEnd 3 = .ok (.getfield 19, 3) := by decide +kernel
theorem d_RL_nameEnd_6 : decode b_RL_nameEnd 6 = .ok (.iload_n 1, 1) := by decide +kernel
theorem d_RL_nameEnd_7 : decode b_RL_nameEnd 7 = .ok (.iaload, 1) := by decide +kernel
theorem d_RL_nameEnd_8 : decode b_RL_nameEnd 8 = .ok (.invokevirtual 44, 3) := by decide +kernel
theorem d_RL_nameEnd_11 : decode b_RL_nameEnd 11 = .ok (.ireturn, 1) := by decide +kernel
abbrev w_RL_nameEnd : List Cond := Cond.code y_RL_nameEnd b_RL_nameEnd 3 (some .int) :: ig_T
theorem g_RL_nameEnd : GoodIn ig_T w_RL_nameEnd := ig_T_good (ig_T_mem (List.mem_append_right _ (List.mem_append_left _ (List.mem_of_getElem? (i := 137) rfl))) rfl)
set_option maxHeartbeats 4000000 in
set_option maxRecDepth 100000 in
theorem c_RL_nameEnd (l : Launch) (dC : Nat → ClassId) (dI : Nat → Nat → Nat) (cC cI cZ cL : ClassId) (q0 qt qs qe qb ql : Nat) (nC : Int32) (tT : Nat → Int32) (aE : Nat → Nat) (i : Nat) (f : Nat) (sz : Nat) (hr : r_RL_nameEnd tT aE i f) : Met l y_RL_nameEnd w_RL_nameEnd ({ frames := 1, cells := 0, slots := 0, locals := 23 }) (ig_Pc (dC, dI) ig_cl0 [(cC, .char), (cI, .int), (cZ, .boolean), (cL, .long)] [.ref q0, .int (nI i), .int (nI f)] [(q0, .inr (ciRL, [.ref qt, .ref qs, .ref qe, .ref qb, .ref ql, .int nC])), (qt, .inl (cC, 1000, .inl tT)), (qe, .inl (cI, 60, .inl (fun j => nI (aE j))))] sz) (va_Qi (fun (r : Int32) (u : Unit) => ∃ zr : Nat, r = nI zr ∧ p_RL_nameEnd tT aE i f zr ) (fun u t => va_P (dC, dI) ig_cl0 ((fun (u : Unit) => [(q0, .inr (ciRL, [.ref qt, .ref qs, .ref qe, .ref qb, .ref ql, .int nC])), (qt, .inl (cC, 1000, .inl tT)), (qe, .inl (cI, 60, .inl (fun j => nI (aE j))))]) u) t.heap ∧ va_D (va_A [(q0, .inr (ciRL, [.ref qt, .ref qs, .ref qe, .ref qb, .ref ql, .int nC])), (qt, .inl (cC, 1000, .inl tT)), (qe, .inl (cI, 60, .inl (fun j => nI (aE j))))] sz) ((fun (u : Unit) => [(q0, .inr (ciRL, [.ref qt, .ref qs, .ref qe, .ref qb, .ref ql, .int nC])), (qt, .inl (cC, 1000, .inl tT)), (qe, .inl (cI, 60, .inl (fun j => nI (aE j))))]) u)) (va_A [(q0, .inr (ciRL, [.ref qt, .ref qs, .ref qe, .ref qb, .ref ql, .int nC])), (qt, .inl (cC, 1000, .inl tT)), (qe, .inl (cI, 60, .inl (fun j => nI (aE j))))] sz)) 0 0 (va_A [(q0, .inr (ciRL, [.ref qt, .ref qs, .ref qe, .ref qb, .ref ql, .int nC])), (qt, .inl (cC, 1000, .inl tT)), (qe, .inl (cI, 60, .inl (fun j => nI (aE j))))] sz) := by
  refine ig_metI (fun (r : Int32) (u : Unit) => ∃ zr : Nat, r = nI zr ∧ p_RL_nameEnd tT aE i f zr ) (fun (u : Unit) => [(q0, .inr (ciRL, [.ref qt, .ref qs, .ref qe, .ref qb, .ref ql, .int nC])), (qt, .inl (cC, 1000, .inl tT)), (qe, .inl (cI, 60, .inl (fun j => nI (aE j))))]) (by decide) rfl (Nat.le_of_ble_eq_true rfl) rfl (fun _ _ _ => rfl) ?_
  intro zp ze zs zm zargs zbelow zmeth zc zA zQ hx hb hml hown hts hK hN hA hret
  have hv := t_RL_nameEnd tT aE i f hr 
  unfold v_RL_nameEnd at hv
  refine ig_aload_n hx hb 0 d_RL_nameEnd_0 rfl rfl ?_
  refine ig_iload_n hx hb 2 d_RL_nameEnd_1 rfl rfl ?_
  refine ig_aload_n hx hb 0 d_RL_nameEnd_2 rfl rfl ?_
  refine ig_get hx hb hts in_RL hown hK 0 rfl rfl 2 (by decide) (hts _ kw_0_32) (fun _ h => h) rfl d_RL_nameEnd_3 ?_
  refine ig_iload_n hx hb 1 d_RL_nameEnd_6 rfl rfl ?_
  obtain ⟨hc, hv⟩ := hv
  refine ig_iald (x := (nI (aE i))) hx hb hK 2 1 rfl rfl i rfl hc (by decide) rfl d_RL_nameEnd_7 ?_
  obtain ⟨hc, hv⟩ := hv
  refine ig_cVi (As := [.int (nI f), .int (nI (aE i))]) (rest := []) (wr := [(qe, .inl (cI, 60, .inl (fun j => nI (aE j))))]) (ws' := fun u => [(q0, .inr (ciRL, [.ref qt, .ref qs, .ref qe, .ref qb, .ref ql, .int nC])), (qt, .inl (cC, 1000, .inl tT)), (qe, .inl (cI, 60, .inl (fun j => nI (aE j))))]) hx hb hml hown hts hK hN hA (fun sz => c_RL_endOfName l dC dI cC cI cZ cL q0 qt qs qe qb ql nC tT f (aE i) sz hc) ⟨callB_of 2 hts g_RL_endOfName rfl rfl rfl (hts _ kw_0_2) (hts _ kw_0_132) (by decide +kernel) (by decide), (hts _ kw_0_134), (hts _ ks_RL_endOfName)⟩ rfl rfl (Nat.le_of_ble_eq_true rfl) d_RL_nameEnd_8 (by decide) 0 rfl rfl [0, 1] [2] [1, 2, 0] rfl rfl (by decide) (by decide) (by decide) (fun _ => rfl) (fun _ => rfl) (fun r u hr => ?_)
  obtain ⟨rr, rfl, hr⟩ := hr
  unfold p_RL_endOfName at hr
  subst hr
  exact hret 11 _ (nI (sp_eon tT (aE i) f)) () d_RL_nameEnd_11 ⟨sp_eon tT (aE i) f, rfl, hv⟩
end
section
def r_MA_nameFits (mB : Nat → Bool) (tT : Nat → Int32) (pB : Nat → Int32) (pS : Nat → Nat) (f : Nat) (a : Nat) (j : Nat) : Prop := f ≤ a ∧ a ≤ 1000 ∧ j < 20 ∧ pS j + 1 ≤ pS (j + 1) ∧ pS (j + 1) ≤ 121
def p_MA_nameFits (mB : Nat → Bool) (tT : Nat → Int32) (pB : Nat → Int32) (pS : Nat → Nat) (f : Nat) (a : Nat) (j : Nat) (r : Bool) (mB' : Nat → Bool) : Prop := r = (sp_nf tT pB pS f a j)
def v_MA_nameFits_152 (mB : Nat → Bool) (tT : Nat → Int32) (pB : Nat → Int32) (pS : Nat → Nat) (f : Nat) (a : Nat) (j : Nat) (K32 : Nat → Nat → Nat → (Nat → Bool) → Prop) (K84 : Nat → Nat → Nat → Nat → Bool → Nat → (Nat → Bool) → Prop) (Q : Bool → (Nat → Bool) → Prop) (z : Nat) (n : Nat) (b : Nat) (la : Nat) (x : Nat) (mBc : Nat → Bool) : Prop := (1 ≤ x) ∧ (K84 z n b la true (x - 1) mBc)
def v_MA_nameFits_136 (mB : Nat → Bool) (tT : Nat → Int32) (pB : Nat → Int32) (pS : Nat → Nat) (f : Nat) (a : Nat) (j : Nat) (K32 : Nat → Nat → Nat → (Nat → Bool) → Prop) (K84 : Nat → Nat → Nat → Nat → Bool → Nat → (Nat → Bool) → Prop) (Q : Bool → (Nat → Bool) → Prop) (z : Nat) (n : Nat) (b : Nat) (la : Nat) (so : Bool) (x : Nat) (s0 : Bool) (s1 : Nat) (mBc : Nat → Bool) : Prop := (s1 < 121) ∧ ((so = true → v_MA_nameFits_152 mB tT pB pS f a j K32 K84 Q z n b la x (updB mBc s1 s0)) ∧ (so = false → (x < 121) ∧ (((updB mBc s1 s0) x = false → (1 ≤ x) ∧ (K84 z n b la false (x - 1) (updB mBc s1 s0))) ∧ ((updB mBc s1 s0) x = true → v_MA_nameFits_152 mB tT pB pS f a j K32 K84 Q z n b la x (updB mBc s1 s0)))))
def v_MA_nameFits_135 (mB : Nat → Bool) (tT : Nat → Int32) (pB : Nat → Int32) (pS : Nat → Nat) (f : Nat) (a : Nat) (j : Nat) (K32 : Nat → Nat → Nat → (Nat → Bool) → Prop) (K84 : Nat → Nat → Nat → Nat → Bool → Nat → (Nat → Bool) → Prop) (Q : Bool → (Nat → Bool) → Prop) (z : Nat) (n : Nat) (b : Nat) (la : Nat) (so : Bool) (x : Nat) (s0 : Nat) (mBc : Nat → Bool) : Prop := v_MA_nameFits_136 mB tT pB pS f a j K32 K84 Q z n b la so x false s0 mBc
def v_MA_nameFits_32 (mB : Nat → Bool) (tT : Nat → Int32) (pB : Nat → Int32) (pS : Nat → Nat) (f : Nat) (a : Nat) (j : Nat) (K32 : Nat → Nat → Nat → (Nat → Bool) → Prop) (K84 : Nat → Nat → Nat → Nat → Bool → Nat → (Nat → Bool) → Prop) (Q : Bool → (Nat → Bool) → Prop) (z : Nat) (n : Nat) (b : Nat) (mBc : Nat → Bool) : Prop := (b < 2147483648) ∧ ((a < 2147483648) ∧ ((a ≤ b → (n < 121) ∧ (Q (mBc n) mBc)) ∧ (¬ a ≤ b → (r_IT_lastByte tT b a) ∧ (((nI b) ≤ (sp_last tT a b) → ∃ z2 : Nat, (sp_last tT a b) = nI z2 ∧ ((b < 1000) ∧ ((¬ (tT b) = 42 → K84 z n b z2 false n mBc) ∧ ((tT b) = 42 → (r_MA_spread mBc 121 n) ∧ ((∀ (zw3 : Nat → Bool), q_MA_spread mBc 121 n zw3 → K32 z n (z2 + 1) zw3)))))) ∧ (¬ (nI b) ≤ (sp_last tT a b) → Q false mBc)))))
def v_MA_nameFits_84 (mB : Nat → Bool) (tT : Nat → Int32) (pB : Nat → Int32) (pS : Nat → Nat) (f : Nat) (a : Nat) (j : Nat) (K32 : Nat → Nat → Nat → (Nat → Bool) → Prop) (K84 : Nat → Nat → Nat → Nat → Bool → Nat → (Nat → Bool) → Prop) (Q : Bool → (Nat → Bool) → Prop) (z : Nat) (n : Nat) (b : Nat) (la : Nat) (so : Bool) (x : Nat) (mBc : Nat → Bool) : Prop := (x < 2147483648) ∧ ((x ≤ 0 → (0 < 121) ∧ ((so = true → K32 z n (la + 1) (updB mBc 0 false)) ∧ (so = false → Q false (updB mBc 0 false)))) ∧ (¬ x ≤ 0 → (1 ≤ x) ∧ ((x - 1 < 121) ∧ ((mBc (x - 1) = false → v_MA_nameFits_135 mB tT pB pS f a j K32 K84 Q z n b la so x x mBc) ∧ (mBc (x - 1) = true → (1 ≤ z + x) ∧ (((z + x) - 1 < 120) ∧ ((r_IT_take tT b la (pB ((z + x) - 1)) a) ∧ ((sp_take tT a b (pB ((z + x) - 1)) = false → v_MA_nameFits_135 mB tT pB pS f a j K32 K84 Q z n b la so x x mBc) ∧ (sp_take tT a b (pB ((z + x) - 1)) = true → v_MA_nameFits_136 mB tT pB pS f a j K32 K84 Q z n b la so x true x mBc)))))))))
def v_MA_nameFits (mB : Nat → Bool) (tT : Nat → Int32) (pB : Nat → Int32) (pS : Nat → Nat) (f : Nat) (a : Nat) (j : Nat) (K32 : Nat → Nat → Nat → (Nat → Bool) → Prop) (K84 : Nat → Nat → Nat → Nat → Bool → Nat → (Nat → Bool) → Prop) (Q : Bool → (Nat → Bool) → Prop) : Prop := (j < 21) ∧ ((r_PA_lengthOf pS j) ∧ ((r_MA_startRow mB 121 (pS (j + 1) - 1 - pS j) 0) ∧ ((∀ (zw1 : Nat → Bool), q_MA_startRow mB 121 (pS (j + 1) - 1 - pS j) 0 zw1 → K32 (pS j) (pS (j + 1) - 1 - pS j) f zw1))))
theorem t_MA_nameFits (mB : Nat → Bool) (tT : Nat → Int32) (pB : Nat → Int32) (pS : Nat → Nat) (f : Nat) (a : Nat) (j : Nat) (hr : r_MA_nameFits mB tT pB pS f a j) (K32 : Nat → Nat → Nat → (Nat → Bool) → Prop) (K84 : Nat → Nat → Nat → Nat → Bool → Nat → (Nat → Bool) → Prop) (k32 : ∀ z n b mBc, v_MA_nameFits_32 mB tT pB pS f a j K32 K84 (p_MA_nameFits mB tT pB pS f a j) z n b mBc → K32 z n b mBc) (k84 : ∀ z n b la so x mBc, v_MA_nameFits_84 mB tT pB pS f a j K32 K84 (p_MA_nameFits mB tT pB pS f a j) z n b la so x mBc → K84 z n b la so x mBc) : v_MA_nameFits mB tT pB pS f a j K32 K84 (p_MA_nameFits mB tT pB pS f a j) := by
  obtain ⟨h1, h2, h3, h4, h5⟩ := hr
  generalize hn : pS (j + 1) - 1 - pS j = n at k32 k84
  have hnb : pS j + n ≤ 120 := by omega
  have hnf : sp_nf tT pB pS f a j = sp_fit tT a (fun i => pB (pS j + i)) n f 0 := by rw [sp_nf, hn]
  have key : ∀ d b row, a - b ≤ d → f ≤ b → b ≤ a → ((sp_nf tT pB pS f a j = true) ↔ sp_ex tT a (fun i => pB (pS j + i)) n b row) → K32 (pS j) n b row := by
    intro d
    induction d with
    | zero =>
      intro b row hd hf hb hI
      refine k32 _ _ b row ?_
      unfold v_MA_nameFits_32
      refine ⟨by omega, by omega, fun _ => ⟨by omega, ?_⟩, fun h => by omega⟩
      rw [sp_ex_end (by omega)] at hI
      exact (Bool.eq_iff_iff.mpr hI).symm
    | succ d ih =>
      intro b row hd hf hb hI
      by_cases hab : a ≤ b
      · refine k32 _ _ b row ?_
        unfold v_MA_nameFits_32
        refine ⟨by omega, by omega, fun _ => ⟨by omega, ?_⟩, fun h => by omega⟩
        rw [sp_ex_end (by omega)] at hI
        exact (Bool.eq_iff_iff.mpr hI).symm
      · have hlt : b < a := by omega
        have hg := sp_end_gt (t := tT) hlt
        have inner : sp_end tT a b ≤ a → ¬ tT b = 42 → ∀ x so row', x ≤ n → (∀ i, i ≤ x → row' i = row i) → (∀ i, x ≤ i → i < n → (row' (i + 1) = true ↔ row i = true ∧ sp_take tT a b (pB (pS j + i)) = true)) → (so = true ↔ ∃ i, x ≤ i ∧ i < n ∧ row' (i + 1) = true) → K84 (pS j) n b (sp_end tT a b - 1) so x row' := by
          intro he hs x
          have hla : sp_end tT a b - 1 + 1 = sp_end tT a b := by omega
          have hd2 : a - sp_end tT a b ≤ d := by omega
          have hf2 : f ≤ sp_end tT a b := by omega
          induction x with
          | zero =>
            intro so row' hx hlo hhi hso
            refine k84 _ _ b _ so 0 row' ?_
            unfold v_MA_nameFits_84
            have hr : ∀ i, i < n → (updB row' 0 false (i + 1) = true ↔ row i = true ∧ sp_take tT a b (pB (pS j + i)) = true) := by
              intro i hi
              rw [updB_n (Nat.succ_ne_zero i)]
              exact hhi i (Nat.zero_le _) hi
            have hI2 := hI.trans (sp_ex_one (P := fun i => pB (pS j + i)) hlt he hs (row' := updB row' 0 false) updB_s hr)
            refine ⟨by decide, fun _ => ⟨by decide, fun h => ?_, fun h => ?_⟩, fun h => absurd (Nat.le_refl 0) h⟩
            · rw [hla]
              exact ih _ _ hd2 hf2 he hI2
            · have : ¬ sp_nf tT pB pS f a j = true := by
                intro q
                refine sp_ex_no ?_ (hI2.mp q)
                intro i hi
                cases i with
                | zero => exact updB_s
                | succ i =>
                  rw [updB_n (Nat.succ_ne_zero i)]
                  cases hq : row' (i + 1) with
                  | false => rfl
                  | true => rw [hso.mpr ⟨i, Nat.zero_le _, hi, hq⟩] at h; cases h
              exact (Bool.eq_false_iff.mpr this).symm
          | succ x ihx =>
            intro so row' hx hlo hhi hso
            have c1 : x < 2147483648 := by omega
            have c2 : x + 1 < 2147483648 := by omega
            have c3 : x < 121 := by omega
            have c4 : x + 1 < 121 := by omega
            have c5 : pS j + (x + 1) - 1 = pS j + x := by omega
            have c6 : pS j + x < 120 := by omega
            have c7 : 1 ≤ pS j + (x + 1) := by omega
            have c8 : x ≤ n := by omega
            have c9 : x < n := by omega
            have step : ∀ s0, (s0 = true ↔ row x = true ∧ sp_take tT a b (pB (pS j + x)) = true) → v_MA_nameFits_136 mB tT pB pS f a j K32 K84 (p_MA_nameFits mB tT pB pS f a j) (pS j) n b (sp_end tT a b - 1) so (x + 1) s0 (x + 1) row' := by
              intro s0 hs0
              have go : ∀ so', (so' = true ↔ (so = true ∨ s0 = true)) → K84 (pS j) n b (sp_end tT a b - 1) so' x (updB row' (x + 1) s0) := by
                intro so' hso'
                refine ihx so' _ c8 (fun i hi => ?_) (fun i hi hin => ?_) ?_
                · rw [updB_n (Nat.ne_of_lt (Nat.lt_succ_of_le hi))]
                  exact hlo i (Nat.le_succ_of_le hi)
                · by_cases hix : i = x
                  · subst hix
                    rw [updB_s]
                    exact hs0
                  · rw [updB_n (fun q => hix (Nat.succ.inj q))]
                    exact hhi i (Nat.lt_of_le_of_ne hi (Ne.symm hix)) hin
                · rw [hso', hso]
                  constructor
                  · rintro (⟨i, i1, i2, i3⟩ | h)
                    · exact ⟨i, Nat.le_of_succ_le i1, i2, by rw [updB_n (fun q => Nat.ne_of_gt i1 (Nat.succ.inj q))]; exact i3⟩
                    · exact ⟨x, Nat.le_refl _, c9, by rw [updB_s]; exact h⟩
                  · rintro ⟨i, i1, i2, i3⟩
                    by_cases hix : i = x
                    · subst hix
                      rw [updB_s] at i3
                      exact Or.inr i3
                    · rw [updB_n (fun q => hix (Nat.succ.inj q))] at i3
                      exact Or.inl ⟨i, Nat.lt_of_le_of_ne i1 (Ne.symm hix), i2, i3⟩
              unfold v_MA_nameFits_136 v_MA_nameFits_152
              simp only [Nat.add_sub_cancel]
              refine ⟨c4, fun h => ⟨Nat.le_add_left 1 x, go true ⟨fun _ => Or.inl h, fun _ => rfl⟩⟩, fun h => ⟨c4, fun h' => ⟨Nat.le_add_left 1 x, go false ?_⟩, fun h' => ⟨Nat.le_add_left 1 x, go true ?_⟩⟩⟩
              · rw [updB_s] at h'
                rw [h, h']
                simp
              · rw [updB_s] at h'
                exact ⟨fun _ => Or.inr h', fun _ => rfl⟩
            refine k84 _ _ b _ so (x + 1) row' ?_
            unfold v_MA_nameFits_84 v_MA_nameFits_135
            rw [c5]
            simp only [Nat.add_sub_cancel]
            have hx0 := hlo x (Nat.le_succ x)
            refine ⟨c2, fun h => absurd h (Nat.not_succ_le_zero x), fun _ => ⟨Nat.le_add_left 1 x, c3, fun h => step false ?_, fun h => ⟨c7, c6, ⟨hlt, h2, by omega, by omega, hs⟩, fun h' => step false ?_, fun h' => step true ?_⟩⟩⟩
            · rw [hx0] at h
              rw [h]
              simp
            · rw [h']
              simp
            · rw [hx0] at h
              exact ⟨fun _ => ⟨h, h'⟩, fun _ => rfl⟩
        refine k32 _ _ b row ?_
        unfold v_MA_nameFits_32
        refine ⟨by omega, by omega, fun h => absurd h hab, fun _ => ⟨⟨hlt, h2⟩, fun hl => ?_, fun hl => ?_⟩⟩
        · by_cases he : sp_end tT a b ≤ a
          · refine ⟨sp_end tT a b - 1, by rw [sp_last, if_pos he], by omega, fun hs => ?_, fun hs => ⟨⟨by omega, by omega⟩, fun w hw => ?_⟩⟩
            · refine inner he hs n false row (Nat.le_refl _) (fun _ _ => rfl) (fun i i1 i2 => absurd i2 (Nat.not_lt.mpr i1)) ⟨fun h => (by cases h), ?_⟩
              rintro ⟨i, i1, i2, -⟩
              exact absurd i2 (Nat.not_lt.mpr i1)
            · rw [show sp_end tT a b - 1 + 1 = sp_end tT a b by omega, sp_end_star hs]
              refine ih (b + 1) w (by omega) (by omega) (by omega) ?_
              exact hI.trans (sp_ex_star hlt hs hw)
          · rw [sp_last, if_neg he] at hl
            exact absurd hl (ig_neg (by omega))
        · have he : ¬ sp_end tT a b ≤ a := by
            intro he
            rw [sp_last, if_pos he] at hl
            exact hl ((ig_le (by omega) (by omega)).mpr (by omega))
          have : ¬ sp_nf tT pB pS f a j = true := fun q => sp_ex_void hlt he (hI.mp q)
          exact (Bool.eq_false_iff.mpr this).symm
  unfold v_MA_nameFits
  rw [hn]
  refine ⟨by omega, ⟨h3, h4⟩, ⟨by omega, by omega, by omega⟩, fun w hw => ?_⟩
  refine key (a - f) f w (Nat.le_refl _) (Nat.le_refl _) h1 ?_
  rw [hnf]
  constructor
  · intro h
    exact ⟨0, Nat.zero_le _, by rw [hw 0 (Nat.zero_le _)]; rfl, h⟩
  · rintro ⟨i, i1, i2, i3⟩
    rw [hw i i1, decide_eq_true_eq] at i2
    rw [← i2]; exact i3

def r_MA_takeName (mN : Nat → Bool) (mB : Nat → Bool) (tT : Nat → Int32) (pB : Nat → Int32) (pS : Nat → Nat) (f : Nat) (a : Nat) (n : Nat) (la : Bool) : Prop := f ≤ a ∧ a ≤ 1000 ∧ 1 ≤ n ∧ n ≤ 20 ∧ (∀ j, j < n → pS j + 1 ≤ pS (j + 1)) ∧ pS n ≤ 121
def q_MA_takeName (mN : Nat → Bool) (mB : Nat → Bool) (tT : Nat → Int32) (pB : Nat → Int32) (pS : Nat → Nat) (f : Nat) (a : Nat) (n : Nat) (la : Bool) (mN' : Nat → Bool) (mB' : Nat → Bool) : Prop := mN' 0 = false ∧ (∀ j, j < n → la = true → j + 1 = n → (mN' (j + 1) = true ↔ mN j = true ∧ sp_nf tT pB pS f a j = true)) ∧ (la = false → ∀ j, j < n → (mN' (j + 1) = true ↔ mN j = true ∧ sp_nf tT pB pS f a j = true))
def p_MA_takeName (mN : Nat → Bool) (mB : Nat → Bool) (tT : Nat → Int32) (pB : Nat → Int32) (pS : Nat → Nat) (f : Nat) (a : Nat) (n : Nat) (la : Bool) (mN' : Nat → Bool) (mB' : Nat → Bool) : Prop := q_MA_takeName mN mB tT pB pS f a n la mN' mB'
def v_MA_takeName_63 (mN : Nat → Bool) (mB : Nat → Bool) (tT : Nat → Int32) (pB : Nat → Int32) (pS : Nat → Nat) (f : Nat) (a : Nat) (n : Nat) (la : Bool) (K17 : Nat → Nat → (Nat → Bool) → (Nat → Bool) → Prop) (Q : (Nat → Bool) → (Nat → Bool) → Prop) (w : Nat) (x : Nat) (s0 : Bool) (s1 : Nat) (mNc : Nat → Bool) (mBc : Nat → Bool) : Prop := (s1 < 21) ∧ ((1 ≤ x) ∧ (K17 w (x - 1) (updB mNc s1 s0) mBc))
def v_MA_takeName_62 (mN : Nat → Bool) (mB : Nat → Bool) (tT : Nat → Int32) (pB : Nat → Int32) (pS : Nat → Nat) (f : Nat) (a : Nat) (n : Nat) (la : Bool) (K17 : Nat → Nat → (Nat → Bool) → (Nat → Bool) → Prop) (Q : (Nat → Bool) → (Nat → Bool) → Prop) (w : Nat) (x : Nat) (s0 : Nat) (mNc : Nat → Bool) (mBc : Nat → Bool) : Prop := v_MA_takeName_63 mN mB tT pB pS f a n la K17 Q w x false s0 mNc mBc
def v_MA_takeName_17 (mN : Nat → Bool) (mB : Nat → Bool) (tT : Nat → Int32) (pB : Nat → Int32) (pS : Nat → Nat) (f : Nat) (a : Nat) (n : Nat) (la : Bool) (K17 : Nat → Nat → (Nat → Bool) → (Nat → Bool) → Prop) (Q : (Nat → Bool) → (Nat → Bool) → Prop) (w : Nat) (x : Nat) (mNc : Nat → Bool) (mBc : Nat → Bool) : Prop := (x < 2147483648) ∧ ((w < 2147483648) ∧ ((x < w → (0 < 21) ∧ (Q (updB mNc 0 false) mBc)) ∧ (¬ x < w → (1 ≤ x) ∧ ((x - 1 < 21) ∧ ((mNc (x - 1) = false → v_MA_takeName_62 mN mB tT pB pS f a n la K17 Q w x x mNc mBc) ∧ (mNc (x - 1) = true → (1 ≤ x) ∧ ((r_MA_nameFits mBc tT pB pS f a (x - 1)) ∧ ((∀ (mB1 : Nat → Bool), (sp_nf tT pB pS f a (x - 1) = false → v_MA_takeName_62 mN mB tT pB pS f a n la K17 Q w x x mNc mB1) ∧ (sp_nf tT pB pS f a (x - 1) = true → v_MA_takeName_63 mN mB tT pB pS f a n la K17 Q w x true x mNc mB1))))))))))
def v_MA_takeName (mN : Nat → Bool) (mB : Nat → Bool) (tT : Nat → Int32) (pB : Nat → Int32) (pS : Nat → Nat) (f : Nat) (a : Nat) (n : Nat) (la : Bool) (K17 : Nat → Nat → (Nat → Bool) → (Nat → Bool) → Prop) (Q : (Nat → Bool) → (Nat → Bool) → Prop) : Prop := (la = false → K17 1 n mN mB) ∧ (la = true → K17 n n mN mB)
theorem t_MA_takeName (mN : Nat → Bool) (mB : Nat → Bool) (tT : Nat → Int32) (pB : Nat → Int32) (pS : Nat → Nat) (f : Nat) (a : Nat) (n : Nat) (la : Bool) (hr : r_MA_takeName mN mB tT pB pS f a n la) (K17 : Nat → Nat → (Nat → Bool) → (Nat → Bool) → Prop) (k17 : ∀ w x mNc mBc, v_MA_takeName_17 mN mB tT pB pS f a n la K17 (p_MA_takeName mN mB tT pB pS f a n la) w x mNc mBc → K17 w x mNc mBc) : v_MA_takeName mN mB tT pB pS f a n la K17 (p_MA_takeName mN mB tT pB pS f a n la) := by
  obtain ⟨h1, h2, h3, h4, h5, h6⟩ := hr
  have mono : ∀ d i, n - i = d → i ≤ n → pS i ≤ 121 := by
    intro d
    induction d with
    | zero => intro i hd hi; rw [show i = n by omega]; exact h6
    | succ d ih =>
      intro i hd hi
      have := ih (i + 1) (by omega) (by omega)
      have := h5 i (by omega)
      omega
  have key : ∀ w, (la = true ∧ w = n) ∨ (la = false ∧ w = 1) → ∀ x rn rb, x ≤ n → (∀ i, i ≤ x → rn i = mN i) → (∀ i, x ≤ i → i < n → (rn (i + 1) = true ↔ mN i = true ∧ sp_nf tT pB pS f a i = true)) → K17 w x rn rb := by
    intro w hw x
    have hwn : w ≤ n ∧ 1 ≤ w := by rcases hw with ⟨-, h⟩ | ⟨-, h⟩ <;> omega
    induction x with
    | zero =>
      intro rn rb hx hlo hhi
      refine k17 w 0 rn rb ?_
      unfold v_MA_takeName_17
      refine ⟨by decide, by omega, fun h => ⟨by decide, ?_⟩, fun h => absurd hwn.2 h⟩
      refine ⟨updB_s, fun j hj _ hjn => ?_, fun _ j hj => ?_⟩
      · rw [updB_n (Nat.succ_ne_zero j)]; exact hhi j (Nat.zero_le _) hj
      · rw [updB_n (Nat.succ_ne_zero j)]; exact hhi j (Nat.zero_le _) hj
    | succ x ih =>
      intro rn rb hx hlo hhi
      refine k17 w (x + 1) rn rb ?_
      have c1 : x < n := by omega
      have c2 : x + 1 < 21 := by omega
      have c3 : x < 21 := by omega
      have c4 : x ≤ n := by omega
      have hx0 := hlo x (Nat.le_succ x)
      have step : ∀ s0 rb', (s0 = true ↔ mN x = true ∧ sp_nf tT pB pS f a x = true) → v_MA_takeName_63 mN mB tT pB pS f a n la K17 (p_MA_takeName mN mB tT pB pS f a n la) w (x + 1) s0 (x + 1) rn rb' := by
        intro s0 rb' hs0
        unfold v_MA_takeName_63
        refine ⟨c2, Nat.le_add_left 1 x, ?_⟩
        rw [Nat.add_sub_cancel]
        refine ih _ _ c4 (fun i hi => ?_) (fun i hi hin => ?_)
        · rw [updB_n (Nat.ne_of_lt (Nat.lt_succ_of_le hi))]
          exact hlo i (Nat.le_succ_of_le hi)
        · by_cases hix : i = x
          · subst hix
            rw [updB_s]; exact hs0
          · rw [updB_n (fun q => hix (Nat.succ.inj q))]
            exact hhi i (Nat.lt_of_le_of_ne hi (Ne.symm hix)) hin
      unfold v_MA_takeName_17 v_MA_takeName_62
      simp only [Nat.add_sub_cancel]
      have q1 := h5 x c1
      have q2 := mono (n - (x + 1)) (x + 1) rfl hx
      refine ⟨by omega, by omega, fun h => ⟨by decide, ?_⟩, fun h => ⟨Nat.le_add_left 1 x, c3, fun h' => step false rb ?_, fun h' => ⟨Nat.le_add_left 1 x, ⟨h1, h2, by omega, q1, q2⟩, fun rb' => ⟨fun h'' => step false rb' ?_, fun h'' => step true rb' ?_⟩⟩⟩⟩
      · refine ⟨updB_s, fun j hj _ hjn => ?_, fun hl j hj => ?_⟩
        · rw [updB_n (Nat.succ_ne_zero j)]; exact hhi j (by omega) hj
        · rcases hw with ⟨q, -⟩ | ⟨-, q⟩
          · rw [q] at hl; cases hl
          · omega
      · rw [hx0] at h'
        rw [h']
        simp
      · rw [h'']
        simp
      · rw [hx0] at h'
        exact ⟨fun _ => ⟨h', h''⟩, fun _ => rfl⟩
  have start : ∀ w, (la = true ∧ w = n) ∨ (la = false ∧ w = 1) → K17 w n mN mB := fun w hw => key w hw n mN mB (Nat.le_refl _) (fun _ _ => rfl) (fun i i1 i2 => absurd i2 (Nat.not_lt.mpr i1))
  unfold v_MA_takeName
  exact ⟨fun h => start 1 (Or.inr ⟨h, rfl⟩), fun h => start n (Or.inl ⟨h, rfl⟩)⟩
end
section
theorem kw_0_3 : Cond.initialized "IgnoreRules$Path" ∈ ig_T := ig_T_mem (List.mem_append_left _ (List.mem_of_getElem? (i := 3) rfl)) rfl
theorem kw_0_4 : Cond.initialized "IgnoreRules$Matcher" ∈ ig_T := ig_T_mem (List.mem_append_left _ (List.mem_of_getElem? (i := 4) rfl)) rfl
theorem kw_0_81 : Cond.fieldLink "IgnoreRules$Matcher" 9 "IgnoreRules$Matcher" "namesTaken" "[Z" ∈ ig_T := ig_T_mem (List.mem_append_left _ (List.mem_of_getElem? (i := 81) rfl)) rfl
theorem kw_0_82 : Cond.fieldLink "IgnoreRules$Matcher" 15 "IgnoreRules$Matcher" "bytesTaken" "[Z" ∈ ig_T := ig_T_mem (List.mem_append_left _ (List.mem_of_getElem? (i := 82) rfl)) rfl
theorem kw_1_56 : Cond.methodLink "IgnoreRules$Matcher" 24 y_MA_startRow ∈ ig_T := ig_T_mem (List.mem_append_right _ (List.mem_append_left _ (List.mem_of_getElem? (i := 56) rfl))) rfl
theorem kw_1_57 : Cond.static y_MA_startRow ∈ ig_T := ig_T_mem (List.mem_append_right _ (List.mem_append_left _ (List.mem_of_getElem? (i := 57) rfl))) rfl
theorem kw_1_62 : Cond.methodLink "IgnoreRules$Matcher" 42 y_MA_spread ∈ ig_T := ig_T_mem (List.mem_append_right _ (List.mem_append_left _ (List.mem_of_getElem? (i := 62) rfl))) rfl
theorem kw_1_63 : Cond.static y_MA_spread ∈ ig_T := ig_T_mem (List.mem_append_right _ (List.mem_append_left _ (List.mem_of_getElem? (i := 63) rfl))) rfl
theorem kw_1_69 : Cond.methodLink "IgnoreRules$Matcher" 50 y_MA_nameFits ∈ ig_T := ig_T_mem (List.mem_append_right _ (List.mem_append_left _ (List.mem_of_getElem? (i := 69) rfl))) rfl
theorem kw_1_71 : Cond.instanceMethod y_MA_nameFits ∈ ig_T := ig_T_mem (List.mem_append_right _ (List.mem_append_left _ (List.mem_of_getElem? (i := 71) rfl))) rfl
theorem kw_1_75 : Cond.instanceMethod y_PA_lengthOf ∈ ig_T := ig_T_mem (List.mem_append_right _ (List.mem_append_left _ (List.mem_of_getElem? (i := 75) rfl))) rfl
theorem kw_1_79 : Cond.static y_IT_take ∈ ig_T := ig_T_mem (List.mem_append_right _ (List.mem_append_left _ (List.mem_of_getElem? (i := 79) rfl))) rfl
theorem d_MA_nameFits_0 : decode b_MA_nameFits 0 = .ok (.aload 4, 2) := by decide +kernel
theorem d_MA_nameFits_2 : decode b_MA_nameFits 2 = .ok (.getfield 54, 3) := by decide +kernel
theorem d_MA_nameFits_5 : decode b_MA_nameFits 5 = .ok (.iload 5, 2) := by decide +kernel
theorem d_MA_nameFits_7 : decode b_MA_nameFits 7 = .ok (.iaload, 1) := by decide +kernel
theorem d_MA_nameFits_8 : decode b_MA_nameFits 8 = .ok (.istore 6, 2) := by decide +kernel
theorem d_MA_nameFits_10 : decode b_MA_nameFits 10 = .ok (.aload 4, 2) := by decide +kernel
theorem d_MA_nameFits_12 : decode b_MA_nameFits 12 = .ok (.iload 5, 2) := by decide +kernel
theorem d_MA_nameFits_14 : decode b_MA_nameFits 14 = .ok (.invokevirtual 57, 3) := by decide +kernel
theorem d_MA_nameFits_17 : decode b_MA_nameFits 17 = .ok (.istore 7, 2) := by decide +kernel
theorem d_MA_nameFits_19 : decode b_MA_nameFits 19 = .ok (.aload_n 0, 1) := by decide +kernel
theorem d_MA_nameFits_20 : decode b_MA_nameFits 20 = .ok (.getfield 15, 3) := by decide +kernel
theorem d_MA_nameFits_23 : decode b_MA_nameFits 23 = .ok (.iload 7, 2) := by decide +kernel
theorem d_MA_nameFits_25 : decode b_MA_nameFits 25 = .ok (.iconst 0, 1) := by decide +kernel
theorem d_MA_nameFits_26 : decode b_MA_nameFits 26 = .ok (.invokestatic 24, 3) := by decide +kernel
theorem d_MA_nameFits_29 : decode b_MA_nameFits 29 = .ok (.iload_n 2, 1) := by decide +kernel
theorem d_MA_nameFits_30 : decode b_MA_nameFits 30 = .ok (.istore 8, 2) := by decide +kernel
theorem d_MA_nameFits_32 : decode b_MA_nameFits 32 = .ok (.iload 8, 2) := by decide +kernel
theorem d_MA_nameFits_34 : decode b_MA_nameFits 34 = .ok (.iload_n 3, 1) := by decide +kernel
theorem d_MA_nameFits_35 : decode b_MA_nameFits 35 = .ok (.if_icmp .ge 154, 3) := by decide +kernel
theorem d_MA_nameFits_38 : decode b_MA_nameFits 38 = .ok (.aload_n 1, 1) := by decide +kernel
theorem d_MA_nameFits_39 : decode b_MA_nameFits 39 = .ok (.iload 8, 2) := by decide +kernel
theorem d_MA_nameFits_41 : decode b_MA_nameFits 41 = .ok (.iload_n 3, 1) := by decide +kernel
theorem d_MA_nameFits_42 : decode b_MA_nameFits 42 = .ok (.invokestatic 61, 3) := by decide +kernel
theorem d_MA_nameFits_45 : decode b_MA_nameFits 45 = .ok (.istore 9, 2) := by decide +kernel
theorem d_MA_nameFits_47 : decode b_MA_nameFits 47 = .ok (.iload 9, 2) := by decide +kernel
theorem d_MA_nameFits_49 : decode b_MA_nameFits 49 = .ok (.iload 8, 2) := by decide +kernel
theorem d_MA_nameFits_51 : decode b_MA_nameFits 51 = .ok (.if_icmp .ge 5, 3) := by decide +kernel
theorem d_MA_nameFits_54 : decode b_MA_nameFits 54 = .ok (.iconst 0, 1) := by decide +kernel
theorem d_MA_nameFits_55 : decode b_MA_nameFits 55 = .ok (.ireturn, 1) := by decide +kernel
theorem d_MA_nameFits_56 : decode b_MA_nameFits 56 = .ok (.aload_n 1, 1) := by decide +kernel
theorem d_MA_nameFits_57 : decode b_MA_nameFits 57 = .ok (.iload 8, 2) := by decide +kernel
theorem d_MA_nameFits_59 : decode b_MA_nameFits 59 = .ok (.caload, 1) := by decide +kernel
theorem d_MA_nameFits_60 : decode b_MA_nameFits 60 = .ok (.bipush 42, 2) := by decide +kernel
theorem d_MA_nameFits_62 : decode b_MA_nameFits 62 = .ok (.if_icmp .ne 15, 3) := by decide +kernel
theorem d_MA_nameFits_65 : decode b_MA_nameFits 65 = .ok (.aload_n 0, 1) := by decide +kernel
theorem d_MA_nameFits_66 : decode b_MA_nameFits 66 = .ok (.getfield 15, 3) := by decide +kernel
theorem d_MA_nameFits_69 : decode b_MA_nameFits 69 = .ok (.iload 7, 2) := by decide +kernel
theorem d_MA_nameFits_71 : decode b_MA_nameFits 71 = .ok (.invokestatic 42, 3) := by decide +kernel
theorem d_MA_nameFits_74 : decode b_MA_nameFits 74 = .ok (.goto 105, 3) := by decide +kernel
theorem d_MA_nameFits_77 : decode b_MA_nameFits 77 = .ok (.iconst 0, 1) := by decide +kernel
theorem d_MA_nameFits_78 : decode b_MA_nameFits 78 = .ok (.istore 10, 2) := by decide +kernel
theorem d_MA_nameFits_80 : decode b_MA_nameFits 80 = .ok (.iload 7, 2) := by decide +kernel
theorem d_MA_nameFits_82 : decode b_MA_nameFits 82 = .ok (.istore 11, 2) := by decide +kernel
theorem d_MA_nameFits_84 : decode b_MA_nameFits 84 = .ok (.iload 11, 2) := by decide +kernel
theorem d_MA_nameFits_86 : decode b_MA_nameFits 86 = .ok (.ifCond .le 79, 3) := by decide +kernel
theorem d_MA_nameFits_89 : decode b_MA_nameFits 89 = .ok (.aload_n 0, 1) := by decide +kernel
theorem d_MA_nameFits_90 : decode b_MA_nameFits 90 = .ok (.getfield 15, 3) := by decide +kernel
theorem d_MA_nameFits_93 : decode b_MA_nameFits 93 = .ok (.iload 11, 2) := by decide +kernel
theorem d_MA_nameFits_95 : decode b_MA_nameFits 95 = .ok (.aload_n 0, 1) := by decide +kernel
theorem d_MA_nameFits_96 : decode b_MA_nameFits 96 = .ok (.getfield 15, 3) := by decide +kernel
theorem d_MA_nameFits_99 : decode b_MA_nameFits 99 = .ok (.iload 11, 2) := by decide +kernel
theorem d_MA_nameFits_101 : decode b_MA_nameFits 101 = .ok (.iconst 1, 1) := by decide +kernel
theorem d_MA_nameFits_102 : decode b_MA_nameFits 102 = .ok (.isub, 1) := by decide +kernel
theorem d_MA_nameFits_103 : decode b_MA_nameFits 103 = .ok (.baload, 1) := by decide +kernel
theorem d_MA_nameFits_104 : decode b_MA_nameFits 104 = .ok (.ifCond .eq 31, 3) := by decide +kernel
theorem d_MA_nameFits_107 : decode b_MA_nameFits 107 = .ok (.aload_n 1, 1) := by decide +kernel
theorem d_MA_nameFits_108 : decode b_MA_nameFits 108 = .ok (.iload 8, 2) := by decide +kernel
theorem d_MA_nameFits_110 : decode b_MA_nameFits 110 = .ok (.iload 9, 2) := by decide +kernel
theorem d_MA_nameFits_112 : decode b_MA_nameFits 112 = .ok (.aload 4, 2) := by decide +kernel
theorem d_MA_nameFits_114 : decode b_MA_nameFits 114 = .ok (.getfield 67, 3) := by decide +kernel
theorem d_MA_nameFits_117 : decode b_MA_nameFits 117 = .ok (.iload 6, 2) := by decide +kernel
theorem d_MA_nameFits_119 : decode b_MA_nameFits 119 = .ok (.iload 11, 2) := by decide +kernel
theorem d_MA_nameFits_121 : decode b_MA_nameFits 121 = .ok (.iadd, 1) := by decide +kernel
theorem d_MA_nameFits_122 : decode b_MA_nameFits 122 = .ok (.iconst 1, 1) := by decide +kernel
theorem d_MA_nameFits_123 : decode b_MA_nameFits 123 = .ok (.isub, 1) := by decide +kernel
theorem d_MA_nameFits_124 : decode b_MA_nameFits 124 = .ok (.caload, 1) := by decide +kernel
theorem d_MA_nameFits_125 : decode b_MA_nameFits 125 = .ok (.invokestatic 70, 3) := by decide +kernel
theorem d_MA_nameFits_128 : decode b_MA_nameFits 128 = .ok (.ifCond .eq 7, 3) := by decide +kernel
theorem d_MA_nameFits_131 : decode b_MA_nameFits 131 = .ok (.iconst 1, 1) := by decide +kernel
theorem d_MA_nameFits_132 : decode b_MA_nameFits 132 = .ok (.goto 4, 3) := by decide +kernel
theorem d_MA_nameFits_135 : decode b_MA_nameFits 135 = .ok (.iconst 0, 1) := by decide +kernel
theorem d_MA_nameFits_136 : decode b_MA_nameFits 136 = .ok (.bastore, 1) := by decide +kernel
theorem d_MA_nameFits_137 : decode b_MA_nameFits 137 = .ok (.iload 10, 2) := by decide +kernel
theorem d_MA_nameFits_139 : decode b_MA_nameFits 139 = .ok (.ifCond .ne 13, 3) := by decide +kernel
theorem d_MA_nameFits_142 : decode b_MA_nameFits 142 = .ok (.aload_n 0, 1) := by decide +kernel
theorem d_MA_nameFits_143 : decode b_MA_nameFits 143 = .ok (.getfield 15, 3) := by decide +kernel
theorem d_MA_nameFits_146 : decode b_MA_nameFits 146 = .ok (.iload 11, 2) := by decide +kernel
theorem d_MA_nameFits_148 : decode b_MA_nameFits 148 = .ok (.baload, 1) := by decide +kernel
theorem d_MA_nameFits_149 : decode b_MA_nameFits 149 = .ok (.ifCond .eq 7, 3) := by decide +kernel
theorem d_MA_nameFits_152 : decode b_MA_nameFits 152 = .ok (.iconst 1, 1) := by decide +kernel
theorem d_MA_nameFits_153 : decode b_MA_nameFits 153 = .ok (.goto 4, 3) := by decide +kernel
theorem d_MA_nameFits_156 : decode b_MA_nameFits 156 = .ok (.iconst 0, 1) := by decide +kernel
theorem d_MA_nameFits_157 : decode b_MA_nameFits 157 = .ok (.istore 10, 2) := by decide +kernel
theorem d_MA_nameFits_159 : decode b_MA_nameFits 159 = .ok (.iinc 11 (-1), 3) := by decide +kernel
theorem d_MA_nameFits_162 : decode b_MA_nameFits 162 = .ok (.goto (-78), 3) := by decide +kernel
theorem d_MA_nameFits_165 : decode b_MA_nameFits 165 = .ok (.aload_n 0, 1) := by decide +kernel
theorem d_MA_nameFits_166 : decode b_MA_nameFits 166 = .ok (.getfield 15, 3) := by decide +kernel
theorem d_MA_nameFits_169 : decode b_MA_nameFits 169 = .ok (.iconst 0, 1) := by decide +kernel
theorem d_MA_nameFits_170 : decode b_MA_nameFits 170 = .ok (.iconst 0, 1) := by decide +kernel
theorem d_MA_nameFits_171 : decode b_MA_nameFits 171 = .ok (.bastore, 1) := by decide +kernel
theorem d_MA_nameFits_172 : decode b_MA_nameFits 172 = .ok (.iload 10, 2) := by decide +kernel
theorem d_MA_nameFits_174 : decode b_MA_nameFits 174 = .ok (.ifCond .ne 5, 3) := by decide +kernel
theorem d_MA_nameFits_177 : decode b_MA_nameFits 177 = .ok (.iconst 0, 1) := by decide +kernel
theorem d_MA_nameFits_178 : decode b_MA_nameFits 178 = .ok (.ireturn, 1) := by decide +kernel
theorem d_MA_nameFits_179 : decode b_MA_nameFits 179 = .ok (.iload 9, 2) := by decide +kernel
theorem d_MA_nameFits_181 : decode b_MA_nameFits 181 = .ok (.istore 8, 2) := by decide +kernel
theorem d_MA_nameFits_183 : decode b_MA_nameFits 183 = .ok (.iinc 8 1, 3) := by decide +kernel
theorem d_MA_nameFits_186 : decode b_MA_nameFits 186 = .ok (.goto (-154), 3) := by decide +kernel
theorem d_MA_nameFits_189 : decode b_MA_nameFits 189 = .ok (.aload_n 0, 1) := by decide +kernel
theorem d_MA_nameFits_190 : decode b_MA_nameFits 190 = .ok (.getfield 15, 3) := by decide +kernel
theorem d_MA_nameFits_193 : decode b_MA_nameFits 193 = .ok (.iload 7, 2) := by decide +kernel
theorem d_MA_nameFits_195 : decode b_MA_nameFits 195 = .ok (.baload, 1) := by decide +kernel
theorem d_MA_nameFits_196 : decode b_MA_nameFits 196 = .ok (.ireturn, 1) := by decide +kernel
abbrev w_MA_nameFits : List Cond := Cond.code y_MA_nameFits b_MA_nameFits 12 (some .boolean) :: ig_T
theorem g_MA_nameFits : GoodIn ig_T w_MA_nameFits := ig_T_good (ig_T_mem (List.mem_append_right _ (List.mem_append_left _ (List.mem_of_getElem? (i := 72) rfl))) rfl)
set_option maxHeartbeats 4000000 in
set_option maxRecDepth 100000 in
theorem c_MA_nameFits (l : Launch) (dC : Nat → ClassId) (dI : Nat → Nat → Nat) (cC cI cZ cL : ClassId) (m0 mn mb qt p0 pb ps : Nat) (pC : Int32) (mB : Nat → Bool) (tT : Nat → Int32) (pB : Nat → Int32) (pS : Nat → Nat) (f : Nat) (a : Nat) (j : Nat) (sz : Nat) (hr : r_MA_nameFits mB tT pB pS f a j) : Met l y_MA_nameFits w_MA_nameFits ({ frames := 1, cells := 0, slots := 0, locals := 28 }) (ig_Pc (dC, dI) ig_cl0 [(cC, .char), (cI, .int), (cZ, .boolean), (cL, .long)] [.ref m0, .ref qt, .int (nI f), .int (nI a), .ref p0, .int (nI j)] [(m0, .inr (ciMA, [.ref mn, .ref mb])), (mb, .inl (cZ, 121, .inl (fun j => bI (mB j)))), (qt, .inl (cC, 1000, .inl tT)), (p0, .inr (ciPA, [.ref pb, .ref ps, .int pC])), (pb, .inl (cC, 120, .inl pB)), (ps, .inl (cI, 21, .inl (fun j => nI (pS j))))] sz) (va_Qi (fun (r : Int32) (u : (Nat → Bool)) => ∃ zr : Bool, r = bI zr ∧ p_MA_nameFits mB tT pB pS f a j zr u) (fun u t => va_P (dC, dI) ig_cl0 ((fun (u : (Nat → Bool)) => [(m0, .inr (ciMA, [.ref mn, .ref mb])), (mb, .inl (cZ, 121, .inl (fun j => bI (u j)))), (qt, .inl (cC, 1000, .inl tT)), (p0, .inr (ciPA, [.ref pb, .ref ps, .int pC])), (pb, .inl (cC, 120, .inl pB)), (ps, .inl (cI, 21, .inl (fun j => nI (pS j))))]) u) t.heap ∧ va_D (va_A [(m0, .inr (ciMA, [.ref mn, .ref mb])), (mb, .inl (cZ, 121, .inl (fun j => bI (mB j)))), (qt, .inl (cC, 1000, .inl tT)), (p0, .inr (ciPA, [.ref pb, .ref ps, .int pC])), (pb, .inl (cC, 120, .inl pB)), (ps, .inl (cI, 21, .inl (fun j => nI (pS j))))] sz) ((fun (u : (Nat → Bool)) => [(m0, .inr (ciMA, [.ref mn, .ref mb])), (mb, .inl (cZ, 121, .inl (fun j => bI (u j)))), (qt, .inl (cC, 1000, .inl tT)), (p0, .inr (ciPA, [.ref pb, .ref ps, .int pC])), (pb, .inl (cC, 120, .inl pB)), (ps, .inl (cI, 21, .inl (fun j => nI (pS j))))]) u)) (va_A [(m0, .inr (ciMA, [.ref mn, .ref mb])), (mb, .inl (cZ, 121, .inl (fun j => bI (mB j)))), (qt, .inl (cC, 1000, .inl tT)), (p0, .inr (ciPA, [.ref pb, .ref ps, .int pC])), (pb, .inl (cC, 120, .inl pB)), (ps, .inl (cI, 21, .inl (fun j => nI (pS j))))] sz)) 0 0 (va_A [(m0, .inr (ciMA, [.ref mn, .ref mb])), (mb, .inl (cZ, 121, .inl (fun j => bI (mB j)))), (qt, .inl (cC, 1000, .inl tT)), (p0, .inr (ciPA, [.ref pb, .ref ps, .int pC])), (pb, .inl (cC, 120, .inl pB)), (ps, .inl (cI, 21, .inl (fun j => nI (pS j))))] sz) := by
  refine ig_metI (fun (r : Int32) (u : (Nat → Bool)) => ∃ zr : Bool, r = bI zr ∧ p_MA_nameFits mB tT pB pS f a j zr u) (fun (u : (Nat → Bool)) => [(m0, .inr (ciMA, [.ref mn, .ref mb])), (mb, .inl (cZ, 121, .inl (fun j => bI (u j)))), (qt, .inl (cC, 1000, .inl tT)), (p0, .inr (ciPA, [.ref pb, .ref ps, .int pC])), (pb, .inl (cC, 120, .inl pB)), (ps, .inl (cI, 21, .inl (fun j => nI (pS j))))]) (by decide) rfl (Nat.le_of_ble_eq_true rfl) rfl (by rintro r u ⟨b, rfl, -⟩; exact bI_ret b) ?_
  intro zp ze zs zm zargs zbelow zmeth zc zA zQ hx hb hml hown hts hK hN hA hret
  obtain ⟨K32, hK32⟩ : ∃ K : Nat → Nat → Nat → (Nat → Bool) → Prop, K = fun (z : Nat) (n : Nat) (b : Nat) (mBc : Nat → Bool) => ig_W zp l ze ({ frames := 1, cells := 0, slots := 0, locals := 28 }) zs zm zargs zbelow zmeth zc (dC, dI) ig_cl0 zA zs.heap 12 0 0 zQ 32 [(0, .ref m0), (1, .ref qt), (3, .int (nI a)), (4, .ref p0), (6, .int (nI z)), (7, .int (nI n)), (8, .int (nI b))] [] [(m0, .inr (ciMA, [.ref mn, .ref mb])), (mb, .inl (cZ, 121, .inl (fun j => bI (mBc j)))), (qt, .inl (cC, 1000, .inl tT)), (p0, .inr (ciPA, [.ref pb, .ref ps, .int pC])), (pb, .inl (cC, 120, .inl pB)), (ps, .inl (cI, 21, .inl (fun j => nI (pS j))))] := ⟨_, rfl⟩
  obtain ⟨K84, hK84⟩ : ∃ K : Nat → Nat → Nat → Nat → Bool → Nat → (Nat → Bool) → Prop, K = fun (z : Nat) (n : Nat) (b : Nat) (la : Nat) (so : Bool) (x : Nat) (mBc : Nat → Bool) => ig_W zp l ze ({ frames := 1, cells := 0, slots := 0, locals := 28 }) zs zm zargs zbelow zmeth zc (dC, dI) ig_cl0 zA zs.heap 12 0 0 zQ 84 [(0, .ref m0), (1, .ref qt), (3, .int (nI a)), (4, .ref p0), (6, .int (nI z)), (7, .int (nI n)), (8, .int (nI b)), (9, .int (nI la)), (10, .int (bI so)), (11, .int (nI x))] [] [(m0, .inr (ciMA, [.ref mn, .ref mb])), (mb, .inl (cZ, 121, .inl (fun j => bI (mBc j)))), (qt, .inl (cC, 1000, .inl tT)), (p0, .inr (ciPA, [.ref pb, .ref ps, .int pC])), (pb, .inl (cC, 120, .inl pB)), (ps, .inl (cI, 21, .inl (fun j => nI (pS j))))] := ⟨_, rfl⟩
  have j152 : ∀ (z : Nat) (n : Nat) (b : Nat) (la : Nat) (x : Nat) (mBc : Nat → Bool), v_MA_nameFits_152 mB tT pB pS f a j K32 K84 (p_MA_nameFits mB tT pB pS f a j) z n b la x mBc → ig_W zp l ze ({ frames := 1, cells := 0, slots := 0, locals := 28 }) zs zm zargs zbelow zmeth zc (dC, dI) ig_cl0 zA zs.heap 12 0 0 zQ 152 [(0, .ref m0), (1, .ref qt), (3, .int (nI a)), (4, .ref p0), (6, .int (nI z)), (7, .int (nI n)), (8, .int (nI b)), (9, .int (nI la)), (11, .int (nI x))] [] [(m0, .inr (ciMA, [.ref mn, .ref mb])), (mb, .inl (cZ, 121, .inl (fun j => bI (mBc j)))), (qt, .inl (cC, 1000, .inl tT)), (p0, .inr (ciPA, [.ref pb, .ref ps, .int pC])), (pb, .inl (cC, 120, .inl pB)), (ps, .inl (cI, 21, .inl (fun j => nI (pS j))))] := by
    intro z n b la x mBc hv
    unfold v_MA_nameFits_152 at hv
    refine ig_iconst (v := 1) hx hb d_MA_nameFits_152 (by decide) ?_
    refine ig_goto (tgt := 157) hx hb d_MA_nameFits_153 (by decide) ?_
    refine ig_istore (lv' := [(10, .int 1), (0, .ref m0), (1, .ref qt), (3, .int (nI a)), (4, .ref p0), (6, .int (nI z)), (7, .int (nI n)), (8, .int (nI b)), (9, .int (nI la)), (11, .int (nI x))]) hx hb d_MA_nameFits_157 (by decide) rfl ?_
    obtain ⟨hc, hv⟩ := hv
    refine ig_iinc (v := (nI (x - 1))) (lv' := [(11, .int (nI (x - 1))), (10, .int 1), (0, .ref m0), (1, .ref qt), (3, .int (nI a)), (4, .ref p0), (6, .int (nI z)), (7, .int (nI n)), (8, .int (nI b)), (9, .int (nI la))]) hx hb 9 d_MA_nameFits_159 rfl (ig_dec 1 hc (by decide)) (by decide) rfl ?_
    refine ig_goto (tgt := 84) hx hb d_MA_nameFits_162 (by decide) ?_
    refine ig_lv (lv' := [(0, .ref m0), (1, .ref qt), (3, .int (nI a)), (4, .ref p0), (6, .int (nI z)), (7, .int (nI n)), (8, .int (nI b)), (9, .int (nI la)), (10, .int 1), (11, .int (nI (x - 1)))]) [2, 3, 4, 5, 6, 7, 8, 9, 1, 0] rfl ?_
    rw [hK84] at hv
    exact hv
  have j136 : ∀ (z : Nat) (n : Nat) (b : Nat) (la : Nat) (so : Bool) (x : Nat) (s0 : Bool) (s1 : Nat) (mBc : Nat → Bool), v_MA_nameFits_136 mB tT pB pS f a j K32 K84 (p_MA_nameFits mB tT pB pS f a j) z n b la so x s0 s1 mBc → ig_W zp l ze ({ frames := 1, cells := 0, slots := 0, locals := 28 }) zs zm zargs zbelow zmeth zc (dC, dI) ig_cl0 zA zs.heap 12 0 0 zQ 136 [(0, .ref m0), (1, .ref qt), (3, .int (nI a)), (4, .ref p0), (6, .int (nI z)), (7, .int (nI n)), (8, .int (nI b)), (9, .int (nI la)), (10, .int (bI so)), (11, .int (nI x))] [.int (bI s0), .int (nI s1), .ref mb] [(m0, .inr (ciMA, [.ref mn, .ref mb])), (mb, .inl (cZ, 121, .inl (fun j => bI (mBc j)))), (qt, .inl (cC, 1000, .inl tT)), (p0, .inr (ciPA, [.ref pb, .ref ps, .int pC])), (pb, .inl (cC, 120, .inl pB)), (ps, .inl (cI, 21, .inl (fun j => nI (pS j))))] := by
    intro z n b la so x s0 s1 mBc hv
    unfold v_MA_nameFits_136 at hv
    obtain ⟨hc, hv⟩ := hv
    refine ig_zast (f' := fun j => bI ((updB mBc s1 s0) j)) (ws' := [(m0, .inr (ciMA, [.ref mn, .ref mb])), (mb, .inl (cZ, 121, .inl (fun j => bI ((updB mBc s1 s0) j)))), (qt, .inl (cC, 1000, .inl tT)), (p0, .inr (ciPA, [.ref pb, .ref ps, .int pC])), (pb, .inl (cC, 120, .inl pB)), (ps, .inl (cI, 21, .inl (fun j => nI (pS j))))]) hx hb hK 1 2 rfl rfl s1 rfl hc (by decide) (bI_nar s0) (upd_B mBc s1 s0) d_MA_nameFits_136 rfl ?_
    refine ig_iload hx hb 8 d_MA_nameFits_137 rfl ?_
    refine ig_if_neB (tgt := 152) hx hb so rfl d_MA_nameFits_139 (by decide) (fun h => ?_) (fun h => ?_)
    · have hv := hv.1 h
      refine ig_lv (lv' := [(0, .ref m0), (1, .ref qt), (3, .int (nI a)), (4, .ref p0), (6, .int (nI z)), (7, .int (nI n)), (8, .int (nI b)), (9, .int (nI la)), (11, .int (nI x))]) [0, 1, 2, 3, 4, 5, 6, 7, 9] rfl ?_
      exact j152 _ _ _ _ _ _ hv
    · have hv := hv.2 h
      refine ig_aload_n hx hb 0 d_MA_nameFits_142 rfl rfl ?_
      refine ig_get hx hb hts in_MA hown hK 0 rfl rfl 1 (by decide) (hts _ kw_0_82) (fun _ h => h) rfl d_MA_nameFits_143 ?_
      refine ig_iload hx hb 9 d_MA_nameFits_146 rfl ?_
      obtain ⟨hc, hv⟩ := hv
      refine ig_zald (x := (bI ((updB mBc s1 s0) x))) hx hb hK 1 2 rfl rfl x rfl hc (by decide) rfl d_MA_nameFits_148 ?_
      refine ig_if_eqB (tgt := 156) hx hb ((updB mBc s1 s0) x) rfl d_MA_nameFits_149 (by decide) (fun h => ?_) (fun h => ?_)
      · have hv := hv.1 h
        refine ig_iconst (v := 0) hx hb d_MA_nameFits_156 (by decide) ?_
        refine ig_istore (lv' := [(10, .int 0), (0, .ref m0), (1, .ref qt), (3, .int (nI a)), (4, .ref p0), (6, .int (nI z)), (7, .int (nI n)), (8, .int (nI b)), (9, .int (nI la)), (11, .int (nI x))]) hx hb d_MA_nameFits_157 (by decide) rfl ?_
        obtain ⟨hc, hv⟩ := hv
        refine ig_iinc (v := (nI (x - 1))) (lv' := [(11, .int (nI (x - 1))), (10, .int 0), (0, .ref m0), (1, .ref qt), (3, .int (nI a)), (4, .ref p0), (6, .int (nI z)), (7, .int (nI n)), (8, .int (nI b)), (9, .int (nI la))]) hx hb 9 d_MA_nameFits_159 rfl (ig_dec 1 hc (by decide)) (by decide) rfl ?_
        refine ig_goto (tgt := 84) hx hb d_MA_nameFits_162 (by decide) ?_
        refine ig_lv (lv' := [(0, .ref m0), (1, .ref qt), (3, .int (nI a)), (4, .ref p0), (6, .int (nI z)), (7, .int (nI n)), (8, .int (nI b)), (9, .int (nI la)), (10, .int 0), (11, .int (nI (x - 1)))]) [2, 3, 4, 5, 6, 7, 8, 9, 1, 0] rfl ?_
        rw [hK84] at hv
        exact hv
      · have hv := hv.2 h
        refine ig_lv (lv' := [(0, .ref m0), (1, .ref qt), (3, .int (nI a)), (4, .ref p0), (6, .int (nI z)), (7, .int (nI n)), (8, .int (nI b)), (9, .int (nI la)), (11, .int (nI x))]) [0, 1, 2, 3, 4, 5, 6, 7, 9] rfl ?_
        exact j152 _ _ _ _ _ _ hv
  have j135 : ∀ (z : Nat) (n : Nat) (b : Nat) (la : Nat) (so : Bool) (x : Nat) (s0 : Nat) (mBc : Nat → Bool), v_MA_nameFits_135 mB tT pB pS f a j K32 K84 (p_MA_nameFits mB tT pB pS f a j) z n b la so x s0 mBc → ig_W zp l ze ({ frames := 1, cells := 0, slots := 0, locals := 28 }) zs zm zargs zbelow zmeth zc (dC, dI) ig_cl0 zA zs.heap 12 0 0 zQ 135 [(0, .ref m0), (1, .ref qt), (3, .int (nI a)), (4, .ref p0), (6, .int (nI z)), (7, .int (nI n)), (8, .int (nI b)), (9, .int (nI la)), (10, .int (bI so)), (11, .int (nI x))] [.int (nI s0), .ref mb] [(m0, .inr (ciMA, [.ref mn, .ref mb])), (mb, .inl (cZ, 121, .inl (fun j => bI (mBc j)))), (qt, .inl (cC, 1000, .inl tT)), (p0, .inr (ciPA, [.ref pb, .ref ps, .int pC])), (pb, .inl (cC, 120, .inl pB)), (ps, .inl (cI, 21, .inl (fun j => nI (pS j))))] := by
    intro z n b la so x s0 mBc hv
    unfold v_MA_nameFits_135 at hv
    refine ig_iconst (v := 0) hx hb d_MA_nameFits_135 (by decide) ?_
    refine ig_lv (lv' := [(0, .ref m0), (1, .ref qt), (3, .int (nI a)), (4, .ref p0), (6, .int (nI z)), (7, .int (nI n)), (8, .int (nI b)), (9, .int (nI la)), (10, .int (bI so)), (11, .int (nI x))]) [0, 1, 2, 3, 4, 5, 6, 7, 8, 9] rfl ?_
    exact j136 _ _ _ _ _ _ _ _ _ hv
  have k32 : ∀ (z : Nat) (n : Nat) (b : Nat) (mBc : Nat → Bool), v_MA_nameFits_32 mB tT pB pS f a j K32 K84 (p_MA_nameFits mB tT pB pS f a j) z n b mBc → K32 z n b mBc := by
    intro z n b mBc hv
    unfold v_MA_nameFits_32 at hv
    rw [hK32]
    show ig_W zp l ze ({ frames := 1, cells := 0, slots := 0, locals := 28 }) zs zm zargs zbelow zmeth zc (dC, dI) ig_cl0 zA zs.heap 12 0 0 zQ 32 [(0, .ref m0), (1, .ref qt), (3, .int (nI a)), (4, .ref p0), (6, .int (nI z)), (7, .int (nI n)), (8, .int (nI b))] [] [(m0, .inr (ciMA, [.ref mn, .ref mb])), (mb, .inl (cZ, 121, .inl (fun j => bI (mBc j)))), (qt, .inl (cC, 1000, .inl tT)), (p0, .inr (ciPA, [.ref pb, .ref ps, .int pC])), (pb, .inl (cC, 120, .inl pB)), (ps, .inl (cI, 21, .inl (fun j => nI (pS j))))]
    refine ig_iload hx hb 6 d_MA_nameFits_32 rfl ?_
    refine ig_iload_n hx hb 2 d_MA_nameFits_34 rfl rfl ?_
    obtain ⟨h1, hv⟩ := hv
    obtain ⟨h2, hv⟩ := hv
    refine ig_icmp_geN (tgt := 189) hx hb b a rfl rfl d_MA_nameFits_35 (by decide) h1 h2 (fun h => ?_) (fun h => ?_)
    · have hv := hv.1 h
      refine ig_aload_n hx hb 0 d_MA_nameFits_189 rfl rfl ?_
      refine ig_get hx hb hts in_MA hown hK 0 rfl rfl 1 (by decide) (hts _ kw_0_82) (fun _ h => h) rfl d_MA_nameFits_190 ?_
      refine ig_iload hx hb 5 d_MA_nameFits_193 rfl ?_
      obtain ⟨hc, hv⟩ := hv
      refine ig_zald (x := (bI (mBc n))) hx hb hK 1 2 rfl rfl n rfl hc (by decide) rfl d_MA_nameFits_195 ?_
      exact hret 196 _ (bI (mBc n)) mBc d_MA_nameFits_196 ⟨mBc n, rfl, hv⟩
    · have hv := hv.2 h
      refine ig_aload_n hx hb 1 d_MA_nameFits_38 rfl rfl ?_
      refine ig_iload hx hb 6 d_MA_nameFits_39 rfl ?_
      refine ig_iload_n hx hb 2 d_MA_nameFits_41 rfl rfl ?_
      obtain ⟨hc, hv⟩ := hv
      refine ig_cSNi (As := [.ref qt, .int (nI b), .int (nI a)]) (rest := []) (wr := [(m0, .inr (ciMA, [.ref mn, .ref mb])), (mb, .inl (cZ, 121, .inl (fun j => bI (mBc j)))), (p0, .inr (ciPA, [.ref pb, .ref ps, .int pC])), (pb, .inl (cC, 120, .inl pB)), (ps, .inl (cI, 21, .inl (fun j => nI (pS j))))]) (ws' := fun u => [(m0, .inr (ciMA, [.ref mn, .ref mb])), (mb, .inl (cZ, 121, .inl (fun j => bI (mBc j)))), (qt, .inl (cC, 1000, .inl tT)), (p0, .inr (ciPA, [.ref pb, .ref ps, .int pC])), (pb, .inl (cC, 120, .inl pB)), (ps, .inl (cI, 21, .inl (fun j => nI (pS j))))]) hx hb hml hown hts hK hN hA (fun sz => c_IT_lastByte l dC dI cC cI cZ cL qt tT b a sz hc) ⟨va_cnB 3 hts g_IT_lastByte rfl rfl rfl (nk_9 hN) (hts _ kw_0_10) (by decide +kernel) (by decide), hts _ kw_0_144, trivial⟩ rfl rfl (Nat.le_of_ble_eq_true rfl) d_MA_nameFits_42 (by decide) [2] [0, 1, 3, 4, 5] [0, 1, 5, 2, 3, 4] rfl rfl (by decide) (by decide) (by decide) (fun _ => rfl) (fun _ => rfl) (fun r u hr => ?_)
      unfold p_IT_lastByte at hr
      subst hr
      refine ig_istore (lv' := [(9, .int (sp_last tT a b)), (0, .ref m0), (1, .ref qt), (3, .int (nI a)), (4, .ref p0), (6, .int (nI z)), (7, .int (nI n)), (8, .int (nI b))]) hx hb d_MA_nameFits_45 (by decide) rfl ?_
      refine ig_iload hx hb 0 d_MA_nameFits_47 rfl ?_
      refine ig_iload hx hb 7 d_MA_nameFits_49 rfl ?_
      refine ig_icmp_ge (tgt := 56) hx hb d_MA_nameFits_51 (by decide) (fun h => ?_) (fun h => ?_)
      · have hv := hv.1 h
        obtain ⟨z2, he, hv⟩ := hv
        rw [he]
        refine ig_aload_n hx hb 2 d_MA_nameFits_56 rfl rfl ?_
        refine ig_iload hx hb 7 d_MA_nameFits_57 rfl ?_
        obtain ⟨hc, hv⟩ := hv
        refine ig_cald (x := (tT b)) hx hb hK 2 0 rfl rfl b rfl hc (by decide) rfl d_MA_nameFits_59 ?_
        refine ig_bipush (v := 42) hx hb d_MA_nameFits_60 (by decide) ?_
        refine ig_icmp_ne (tgt := 77) hx hb d_MA_nameFits_62 (by decide) (fun h => ?_) (fun h => ?_)
        · have hv := hv.1 h
          refine ig_iconst (v := 0) hx hb d_MA_nameFits_77 (by decide) ?_
          refine ig_istore (lv' := [(10, .int 0), (9, .int (nI z2)), (0, .ref m0), (1, .ref qt), (3, .int (nI a)), (4, .ref p0), (6, .int (nI z)), (7, .int (nI n)), (8, .int (nI b))]) hx hb d_MA_nameFits_78 (by decide) rfl ?_
          refine ig_iload hx hb 7 d_MA_nameFits_80 rfl ?_
          refine ig_istore (lv' := [(11, .int (nI n)), (10, .int 0), (9, .int (nI z2)), (0, .ref m0), (1, .ref qt), (3, .int (nI a)), (4, .ref p0), (6, .int (nI z)), (7, .int (nI n)), (8, .int (nI b))]) hx hb d_MA_nameFits_82 (by decide) rfl ?_
          refine ig_lv (lv' := [(0, .ref m0), (1, .ref qt), (3, .int (nI a)), (4, .ref p0), (6, .int (nI z)), (7, .int (nI n)), (8, .int (nI b)), (9, .int (nI z2)), (10, .int 0), (11, .int (nI n))]) [3, 4, 5, 6, 7, 8, 9, 2, 1, 0] rfl ?_
          rw [hK84] at hv
          exact hv
        · have hv := hv.2 h
          refine ig_aload_n hx hb 1 d_MA_nameFits_65 rfl rfl ?_
          refine ig_get hx hb hts in_MA hown hK 0 rfl rfl 1 (by decide) (hts _ kw_0_82) (fun _ h => h) rfl d_MA_nameFits_66 ?_
          refine ig_iload hx hb 6 d_MA_nameFits_69 rfl ?_
          obtain ⟨hc, hv⟩ := hv
          refine ig_cSv (As := [.ref mb, .int (nI n)]) (rest := []) (wr := [(m0, .inr (ciMA, [.ref mn, .ref mb])), (qt, .inl (cC, 1000, .inl tT)), (p0, .inr (ciPA, [.ref pb, .ref ps, .int pC])), (pb, .inl (cC, 120, .inl pB)), (ps, .inl (cI, 21, .inl (fun j => nI (pS j))))]) (ws' := fun u => [(m0, .inr (ciMA, [.ref mn, .ref mb])), (mb, .inl (cZ, 121, .inl (fun j => bI (u j)))), (qt, .inl (cC, 1000, .inl tT)), (p0, .inr (ciPA, [.ref pb, .ref ps, .int pC])), (pb, .inl (cC, 120, .inl pB)), (ps, .inl (cI, 21, .inl (fun j => nI (pS j))))]) hx hb hml hown hts hK hN hA (fun sz => c_MA_spread l dC dI cC cI cZ cL mb mBc 121 n sz hc) ⟨callB_of 2 hts g_MA_spread rfl rfl rfl (hts _ kw_0_4) (hts _ kw_1_62) (by decide +kernel) (by decide), hts _ kw_1_63⟩ rfl rfl (Nat.le_of_ble_eq_true rfl) d_MA_nameFits_71 (by decide) [1] [0, 2, 3, 4, 5] [0, 5, 1, 2, 3, 4] rfl rfl (by decide) (by decide) (by decide) (fun _ => rfl) (fun _ => rfl) (fun u hr => ?_)
          obtain ⟨zw3, hu⟩ : ∃ z, z = u := ⟨_, rfl⟩
          subst hu
          unfold p_MA_spread at hr
          have hv := hv zw3 hr
          refine ig_goto (tgt := 179) hx hb d_MA_nameFits_74 (by decide) ?_
          refine ig_iload hx hb 0 d_MA_nameFits_179 rfl ?_
          refine ig_istore (lv' := [(8, .int (nI z2)), (9, .int (nI z2)), (0, .ref m0), (1, .ref qt), (3, .int (nI a)), (4, .ref p0), (6, .int (nI z)), (7, .int (nI n))]) hx hb d_MA_nameFits_181 (by decide) rfl ?_
          refine ig_iinc (v := (nI (z2 + 1))) (lv' := [(8, .int (nI (z2 + 1))), (9, .int (nI z2)), (0, .ref m0), (1, .ref qt), (3, .int (nI a)), (4, .ref p0), (6, .int (nI z)), (7, .int (nI n))]) hx hb 0 d_MA_nameFits_183 rfl (ig_inc z2 1 (by decide)) (by decide) rfl ?_
          refine ig_goto (tgt := 32) hx hb d_MA_nameFits_186 (by decide) ?_
          refine ig_lv (lv' := [(0, .ref m0), (1, .ref qt), (3, .int (nI a)), (4, .ref p0), (6, .int (nI z)), (7, .int (nI n)), (8, .int (nI (z2 + 1)))]) [2, 3, 4, 5, 6, 7, 0] rfl ?_
          rw [hK32] at hv
          exact hv
      · have hv := hv.2 h
        refine ig_iconst (v := 0) hx hb d_MA_nameFits_54 (by decide) ?_
        exact hret 55 _ 0 mBc d_MA_nameFits_55 ⟨false, rfl, hv⟩
  have k84 : ∀ (z : Nat) (n : Nat) (b : Nat) (la : Nat) (so : Bool) (x : Nat) (mBc : Nat → Bool), v_MA_nameFits_84 mB tT pB pS f a j K32 K84 (p_MA_nameFits mB tT pB pS f a j) z n b la so x mBc → K84 z n b la so x mBc := by
    intro z n b la so x mBc hv
    unfold v_MA_nameFits_84 at hv
    rw [hK84]
    show ig_W zp l ze ({ frames := 1, cells := 0, slots := 0, locals := 28 }) zs zm zargs zbelow zmeth zc (dC, dI) ig_cl0 zA zs.heap 12 0 0 zQ 84 [(0, .ref m0), (1, .ref qt), (3, .int (nI a)), (4, .ref p0), (6, .int (nI z)), (7, .int (nI n)), (8, .int (nI b)), (9, .int (nI la)), (10, .int (bI so)), (11, .int (nI x))] [] [(m0, .inr (ciMA, [.ref mn, .ref mb])), (mb, .inl (cZ, 121, .inl (fun j => bI (mBc j)))), (qt, .inl (cC, 1000, .inl tT)), (p0, .inr (ciPA, [.ref pb, .ref ps, .int pC])), (pb, .inl (cC, 120, .inl pB)), (ps, .inl (cI, 21, .inl (fun j => nI (pS j))))]
    refine ig_iload hx hb 9 d_MA_nameFits_84 rfl ?_
    obtain ⟨h1, hv⟩ := hv
    refine ig_if_leN (tgt := 165) hx hb x rfl d_MA_nameFits_86 (by decide) h1 (fun h => ?_) (fun h => ?_)
    · have hv := hv.1 h
      refine ig_aload_n hx hb 0 d_MA_nameFits_165 rfl rfl ?_
      refine ig_get hx hb hts in_MA hown hK 0 rfl rfl 1 (by decide) (hts _ kw_0_82) (fun _ h => h) rfl d_MA_nameFits_166 ?_
      refine ig_iconst (v := 0) hx hb d_MA_nameFits_169 (by decide) ?_
      refine ig_iconst (v := 0) hx hb d_MA_nameFits_170 (by decide) ?_
      obtain ⟨hc, hv⟩ := hv
      refine ig_zast (f' := fun j => bI ((updB mBc 0 false) j)) (ws' := [(m0, .inr (ciMA, [.ref mn, .ref mb])), (mb, .inl (cZ, 121, .inl (fun j => bI ((updB mBc 0 false) j)))), (qt, .inl (cC, 1000, .inl tT)), (p0, .inr (ciPA, [.ref pb, .ref ps, .int pC])), (pb, .inl (cC, 120, .inl pB)), (ps, .inl (cI, 21, .inl (fun j => nI (pS j))))]) hx hb hK 1 2 rfl rfl 0 rfl hc (by decide) (bI_nar false) (upd_B mBc 0 false) d_MA_nameFits_171 rfl ?_
      refine ig_iload hx hb 8 d_MA_nameFits_172 rfl ?_
      refine ig_if_neB (tgt := 179) hx hb so rfl d_MA_nameFits_174 (by decide) (fun h => ?_) (fun h => ?_)
      · have hv := hv.1 h
        refine ig_iload hx hb 7 d_MA_nameFits_179 rfl ?_
        refine ig_istore (lv' := [(8, .int (nI la)), (0, .ref m0), (1, .ref qt), (3, .int (nI a)), (4, .ref p0), (6, .int (nI z)), (7, .int (nI n)), (9, .int (nI la)), (10, .int (bI so)), (11, .int (nI x))]) hx hb d_MA_nameFits_181 (by decide) rfl ?_
        refine ig_iinc (v := (nI (la + 1))) (lv' := [(8, .int (nI (la + 1))), (0, .ref m0), (1, .ref qt), (3, .int (nI a)), (4, .ref p0), (6, .int (nI z)), (7, .int (nI n)), (9, .int (nI la)), (10, .int (bI so)), (11, .int (nI x))]) hx hb 0 d_MA_nameFits_183 rfl (ig_inc la 1 (by decide)) (by decide) rfl ?_
        refine ig_goto (tgt := 32) hx hb d_MA_nameFits_186 (by decide) ?_
        refine ig_lv (lv' := [(0, .ref m0), (1, .ref qt), (3, .int (nI a)), (4, .ref p0), (6, .int (nI z)), (7, .int (nI n)), (8, .int (nI (la + 1)))]) [1, 2, 3, 4, 5, 6, 0] rfl ?_
        rw [hK32] at hv
        exact hv
      · have hv := hv.2 h
        refine ig_iconst (v := 0) hx hb d_MA_nameFits_177 (by decide) ?_
        exact hret 178 _ 0 (updB mBc 0 false) d_MA_nameFits_178 ⟨false, rfl, hv⟩
    · have hv := hv.2 h
      refine ig_aload_n hx hb 0 d_MA_nameFits_89 rfl rfl ?_
      refine ig_get hx hb hts in_MA hown hK 0 rfl rfl 1 (by decide) (hts _ kw_0_82) (fun _ h => h) rfl d_MA_nameFits_90 ?_
      refine ig_iload hx hb 9 d_MA_nameFits_93 rfl ?_
      refine ig_aload_n hx hb 0 d_MA_nameFits_95 rfl rfl ?_
      refine ig_get hx hb hts in_MA hown hK 0 rfl rfl 1 (by decide) (hts _ kw_0_82) (fun _ h => h) rfl d_MA_nameFits_96 ?_
      refine ig_iload hx hb 9 d_MA_nameFits_99 rfl ?_
      refine ig_iconst (v := 1) hx hb d_MA_nameFits_101 (by decide) ?_
      obtain ⟨hc, hv⟩ := hv
      refine ig_isubN hx hb x 1 rfl rfl hc d_MA_nameFits_102 ?_
      obtain ⟨hc, hv⟩ := hv
      refine ig_zald (x := (bI (mBc (x - 1)))) hx hb hK 1 2 rfl rfl (x - 1) rfl hc (by decide) rfl d_MA_nameFits_103 ?_
      refine ig_if_eqB (tgt := 135) hx hb (mBc (x - 1)) rfl d_MA_nameFits_104 (by decide) (fun h => ?_) (fun h => ?_)
      · have hv := hv.1 h
        refine ig_lv (lv' := [(0, .ref m0), (1, .ref qt), (3, .int (nI a)), (4, .ref p0), (6, .int (nI z)), (7, .int (nI n)), (8, .int (nI b)), (9, .int (nI la)), (10, .int (bI so)), (11, .int (nI x))]) [0, 1, 2, 3, 4, 5, 6, 7, 8, 9] rfl ?_
        exact j135 _ _ _ _ _ _ _ _ hv
      · have hv := hv.2 h
        refine ig_aload_n hx hb 1 d_MA_nameFits_107 rfl rfl ?_
        refine ig_iload hx hb 6 d_MA_nameFits_108 rfl ?_
        refine ig_iload hx hb 7 d_MA_nameFits_110 rfl ?_
        refine ig_aload hx hb 3 d_MA_nameFits_112 rfl ?_
        refine ig_getN hx hb hts in_PA hown hK 3 rfl rfl 0 (by decide) (va_Nw.use rfl (fk_8 hN)) (fun _ h => h) rfl d_MA_nameFits_114 ?_
        refine ig_iload hx hb 4 d_MA_nameFits_117 rfl ?_
        refine ig_iload hx hb 9 d_MA_nameFits_119 rfl ?_
        refine ig_iaddN hx hb z x rfl rfl d_MA_nameFits_121 ?_
        refine ig_iconst (v := 1) hx hb d_MA_nameFits_122 (by decide) ?_
        obtain ⟨hc, hv⟩ := hv
        refine ig_isubN hx hb (z + x) 1 rfl rfl hc d_MA_nameFits_123 ?_
        obtain ⟨hc, hv⟩ := hv
        refine ig_cald (x := (pB ((z + x) - 1))) hx hb hK 4 0 rfl rfl ((z + x) - 1) rfl hc (by decide) rfl d_MA_nameFits_124 ?_
        obtain ⟨hc, hv⟩ := hv
        refine ig_cSNi (As := [.ref qt, .int (nI b), .int (nI la), .int (pB ((z + x) - 1))]) (rest := [.int (nI x), .ref mb]) (wr := [(m0, .inr (ciMA, [.ref mn, .ref mb])), (mb, .inl (cZ, 121, .inl (fun j => bI (mBc j)))), (p0, .inr (ciPA, [.ref pb, .ref ps, .int pC])), (pb, .inl (cC, 120, .inl pB)), (ps, .inl (cI, 21, .inl (fun j => nI (pS j))))]) (ws' := fun u => [(m0, .inr (ciMA, [.ref mn, .ref mb])), (mb, .inl (cZ, 121, .inl (fun j => bI (mBc j)))), (qt, .inl (cC, 1000, .inl tT)), (p0, .inr (ciPA, [.ref pb, .ref ps, .int pC])), (pb, .inl (cC, 120, .inl pB)), (ps, .inl (cI, 21, .inl (fun j => nI (pS j))))]) hx hb hml hown hts hK hN hA (fun sz => c_IT_take l dC dI cC cI cZ cL qt tT b la (pB ((z + x) - 1)) a sz hc) ⟨va_cnB 4 hts g_IT_take rfl rfl rfl (nk_10 hN) (hts _ kw_0_10) (by decide +kernel) (by decide), hts _ kw_1_79, trivial⟩ rfl rfl (Nat.le_of_ble_eq_true rfl) d_MA_nameFits_125 (by decide) [2] [0, 1, 3, 4, 5] [0, 1, 5, 2, 3, 4] rfl rfl (by decide) (by decide) (by decide) (fun _ => rfl) (fun _ => rfl) (fun r u hr => ?_)
        obtain ⟨rr, rfl, hr⟩ := hr
        unfold p_IT_take at hr
        subst hr
        refine ig_if_eqB (tgt := 135) hx hb (sp_take tT a b (pB ((z + x) - 1))) rfl d_MA_nameFits_128 (by decide) (fun h => ?_) (fun h => ?_)
        · have hv := hv.1 h
          refine ig_lv (lv' := [(0, .ref m0), (1, .ref qt), (3, .int (nI a)), (4, .ref p0), (6, .int (nI z)), (7, .int (nI n)), (8, .int (nI b)), (9, .int (nI la)), (10, .int (bI so)), (11, .int (nI x))]) [0, 1, 2, 3, 4, 5, 6, 7, 8, 9] rfl ?_
          exact j135 _ _ _ _ _ _ _ _ hv
        · have hv := hv.2 h
          refine ig_iconst (v := 1) hx hb d_MA_nameFits_131 (by decide) ?_
          refine ig_goto (tgt := 136) hx hb d_MA_nameFits_132 (by decide) ?_
          refine ig_lv (lv' := [(0, .ref m0), (1, .ref qt), (3, .int (nI a)), (4, .ref p0), (6, .int (nI z)), (7, .int (nI n)), (8, .int (nI b)), (9, .int (nI la)), (10, .int (bI so)), (11, .int (nI x))]) [0, 1, 2, 3, 4, 5, 6, 7, 8, 9] rfl ?_
          exact j136 _ _ _ _ _ _ _ _ _ hv
  have hv := t_MA_nameFits mB tT pB pS f a j hr K32 K84 k32 k84
  unfold v_MA_nameFits at hv
  refine ig_aload hx hb 4 d_MA_nameFits_0 rfl ?_
  refine ig_getN hx hb hts in_PA hown hK 3 rfl rfl 1 (by decide) (va_Nw.use rfl (fk_9 hN)) (fun _ h => h) rfl d_MA_nameFits_2 ?_
  refine ig_iload hx hb 5 d_MA_nameFits_5 rfl ?_
  obtain ⟨hc, hv⟩ := hv
  refine ig_iald (x := (nI (pS j))) hx hb hK 5 1 rfl rfl j rfl hc (by decide) rfl d_MA_nameFits_7 ?_
  refine ig_istore (lv' := [(6, .int (nI (pS j))), (0, .ref m0), (1, .ref qt), (2, .int (nI f)), (3, .int (nI a)), (4, .ref p0), (5, .int (nI j))]) hx hb d_MA_nameFits_8 (by decide) rfl ?_
  refine ig_aload hx hb 5 d_MA_nameFits_10 rfl ?_
  refine ig_iload hx hb 6 d_MA_nameFits_12 rfl ?_
  obtain ⟨hc, hv⟩ := hv
  refine ig_cVNi (As := [.int (nI j)]) (rest := []) (wr := [(m0, .inr (ciMA, [.ref mn, .ref mb])), (mb, .inl (cZ, 121, .inl (fun j => bI (mB j)))), (qt, .inl (cC, 1000, .inl tT)), (pb, .inl (cC, 120, .inl pB))]) (ws' := fun u => [(m0, .inr (ciMA, [.ref mn, .ref mb])), (mb, .inl (cZ, 121, .inl (fun j => bI (mB j)))), (qt, .inl (cC, 1000, .inl tT)), (p0, .inr (ciPA, [.ref pb, .ref ps, .int pC])), (pb, .inl (cC, 120, .inl pB)), (ps, .inl (cI, 21, .inl (fun j => nI (pS j))))]) hx hb hml hown hts hK hN hA (fun sz => c_PA_lengthOf l dC dI cC cI cZ cL p0 pb ps pC pS j sz hc) ⟨va_cnB 1 hts g_PA_lengthOf rfl rfl rfl (nk_8 hN) (hts _ kw_0_3) (by decide +kernel) (by decide), (hts _ kw_1_75), (hts _ ks_PA_lengthOf)⟩ rfl rfl (Nat.le_of_ble_eq_true rfl) d_MA_nameFits_14 (by decide) 0 rfl rfl [3, 5] [0, 1, 2, 4] [0, 1, 2, 4, 3, 5] rfl rfl (by decide) (by decide) (by decide) (fun _ => rfl) (fun _ => rfl) (fun r u hr => ?_)
  obtain ⟨rr, rfl, hr⟩ := hr
  unfold p_PA_lengthOf at hr
  subst hr
  refine ig_istore (lv' := [(7, .int (nI (pS (j + 1) - 1 - pS j))), (6, .int (nI (pS j))), (0, .ref m0), (1, .ref qt), (2, .int (nI f)), (3, .int (nI a)), (4, .ref p0), (5, .int (nI j))]) hx hb d_MA_nameFits_17 (by decide) rfl ?_
  refine ig_aload_n hx hb 2 d_MA_nameFits_19 rfl rfl ?_
  refine ig_get hx hb hts in_MA hown hK 0 rfl rfl 1 (by decide) (hts _ kw_0_82) (fun _ h => h) rfl d_MA_nameFits_20 ?_
  refine ig_iload hx hb 0 d_MA_nameFits_23 rfl ?_
  refine ig_iconst (v := 0) hx hb d_MA_nameFits_25 (by decide) ?_
  obtain ⟨hc, hv⟩ := hv
  refine ig_cSv (As := [.ref mb, .int (nI (pS (j + 1) - 1 - pS j)), .int 0]) (rest := []) (wr := [(m0, .inr (ciMA, [.ref mn, .ref mb])), (qt, .inl (cC, 1000, .inl tT)), (p0, .inr (ciPA, [.ref pb, .ref ps, .int pC])), (pb, .inl (cC, 120, .inl pB)), (ps, .inl (cI, 21, .inl (fun j => nI (pS j))))]) (ws' := fun u => [(m0, .inr (ciMA, [.ref mn, .ref mb])), (mb, .inl (cZ, 121, .inl (fun j => bI (u j)))), (qt, .inl (cC, 1000, .inl tT)), (p0, .inr (ciPA, [.ref pb, .ref ps, .int pC])), (pb, .inl (cC, 120, .inl pB)), (ps, .inl (cI, 21, .inl (fun j => nI (pS j))))]) hx hb hml hown hts hK hN hA (fun sz => c_MA_startRow l dC dI cC cI cZ cL mb mB 121 (pS (j + 1) - 1 - pS j) 0 sz hc) ⟨callB_of 3 hts g_MA_startRow rfl rfl rfl (hts _ kw_0_4) (hts _ kw_1_56) (by decide +kernel) (by decide), hts _ kw_1_57⟩ rfl rfl (Nat.le_of_ble_eq_true rfl) d_MA_nameFits_26 (by decide) [1] [0, 2, 3, 4, 5] [0, 5, 1, 2, 3, 4] rfl rfl (by decide) (by decide) (by decide) (fun _ => rfl) (fun _ => rfl) (fun u hr => ?_)
  obtain ⟨zw1, hu⟩ : ∃ z, z = u := ⟨_, rfl⟩
  subst hu
  unfold p_MA_startRow at hr
  have hv := hv zw1 hr
  refine ig_iload_n hx hb 4 d_MA_nameFits_29 rfl rfl ?_
  refine ig_istore (lv' := [(8, .int (nI f)), (7, .int (nI (pS (j + 1) - 1 - pS j))), (6, .int (nI (pS j))), (0, .ref m0), (1, .ref qt), (2, .int (nI f)), (3, .int (nI a)), (4, .ref p0), (5, .int (nI j))]) hx hb d_MA_nameFits_30 (by decide) rfl ?_
  refine ig_lv (lv' := [(0, .ref m0), (1, .ref qt), (3, .int (nI a)), (4, .ref p0), (6, .int (nI (pS j))), (7, .int (nI (pS (j + 1) - 1 - pS j))), (8, .int (nI f))]) [3, 4, 6, 7, 2, 1, 0] rfl ?_
  rw [hK32] at hv
  exact hv
theorem d_MA_takeName_0 : decode b_MA_takeName 0 = .ok (.iload 6, 2) := by decide +kernel
theorem d_MA_takeName_2 : decode b_MA_takeName 2 = .ok (.ifCond .eq 8, 3) := by decide +kernel
theorem d_MA_takeName_5 : decode b_MA_takeName 5 = .ok (.iload 5, 2) := by decide +kernel
theorem d_MA_takeName_7 : decode b_MA_takeName 7 = .ok (.goto 4, 3) := by decide +kernel
theorem d_MA_takeName_10 : decode b_MA_takeName 10 = .ok (.iconst 1, 1) := by decide +kernel
theorem d_MA_takeName_11 : decode b_MA_takeName 11 = .ok (.istore 7, 2) := by decide +kernel
theorem d_MA_takeName_13 : decode b_MA_takeName 13 = .ok (.iload 5, 2) := by decide +kernel
theorem d_MA_takeName_15 : decode b_MA_takeName 15 = .ok (.istore 8, 2) := by decide +kernel
theorem d_MA_takeName_17 : decode b_MA_takeName 17 = .ok (.iload 8, 2) := by decide +kernel
theorem d_MA_takeName_19 : decode b_MA_takeName 19 = .ok (.iload 7, 2) := by decide +kernel
theorem d_MA_takeName_21 : decode b_MA_takeName 21 = .ok (.if_icmp .lt 49, 3) := by decide +kernel
theorem d_MA_takeName_24 : decode b_MA_takeName 24 = .ok (.aload_n 0, 1) := by decide +kernel
theorem d_MA_takeName_25 : decode b_MA_takeName 25 = .ok (.getfield 9, 3) := by decide +kernel
theorem d_MA_takeName_28 : decode b_MA_takeName 28 = .ok (.iload 8, 2) := by decide +kernel
theorem d_MA_takeName_30 : decode b_MA_takeName 30 = .ok (.aload_n 0, 1) := by decide +kernel
theorem d_MA_takeName_31 : decode b_MA_takeName 31 = .ok (.getfield 9, 3) := by decide +kernel
theorem d_MA_takeName_34 : decode b_MA_takeName 34 = .ok (.iload 8, 2) := by decide +kernel
theorem d_MA_takeName_36 : decode b_MA_takeName 36 = .ok (.iconst 1, 1) := by decide +kernel
theorem d_MA_takeName_37 : decode b_MA_takeName 37 = .ok (.isub, 1) := by decide +kernel
theorem d_MA_takeName_38 : decode b_MA_takeName 38 = .ok (.baload, 1) := by decide +kernel
theorem d_MA_takeName_39 : decode b_MA_takeName 39 = .ok (.ifCond .eq 23, 3) := by decide +kernel
theorem d_MA_takeName_42 : decode b_MA_takeName 42 = .ok (.aload_n 0, 1) := by decide +kernel
theorem d_MA_takeName_43 : decode b_MA_takeName 43 = .ok (.aload_n 1, 1) := by decide +kernel
theorem d_MA_takeName_44 : decode b_MA_takeName 44 = .ok (.iload_n 2, 1) := by decide +kernel
theorem d_MA_takeName_45 : decode b_MA_takeName 45 = .ok (.iload_n 3, 1) := by decide +kernel
theorem d_MA_takeName_46 : decode b_MA_takeName 46 = .ok (.aload 4, 2) := by decide +kernel
theorem d_MA_takeName_48 : decode b_MA_takeName 48 = .ok (.iload 8, 2) := by decide +kernel
theorem d_MA_takeName_50 : decode b_MA_takeName 50 = .ok (.iconst 1, 1) := by decide +kernel
theorem d_MA_takeName_51 : decode b_MA_takeName 51 = .ok (.isub, 1) := by decide +kernel
theorem d_MA_takeName_52 : decode b_MA_takeName 52 = .ok (.invokevirtual 50, 3) := by decide +kernel
theorem d_MA_takeName_55 : decode b_MA_takeName 55 = .ok (.ifCond .eq 7, 3) := by decide +kernel
theorem d_MA_takeName_58 : decode b_MA_takeName 58 = .ok (.iconst 1, 1) := by decide +kernel
theorem d_MA_takeName_59 : decode b_MA_takeName 59 = .ok (.goto 4, 3) := by decide +kernel
theorem d_MA_takeName_62 : decode b_MA_takeName 62 = .ok (.iconst 0, 1) := by decide +kernel
theorem d_MA_takeName_63 : decode b_MA_takeName 63 = .ok (.bastore, 1) := by decide +kernel
theorem d_MA_takeName_64 : decode b_MA_takeName 64 = .ok (.iinc 8 (-1), 3) := by decide +kernel
theorem d_MA_takeName_67 : decode b_MA_takeName 67 = .ok (.goto (-50), 3) := by decide +kernel
theorem d_MA_takeName_70 : decode b_MA_takeName 70 = .ok (.aload_n 0, 1) := by decide +kernel
theorem d_MA_takeName_71 : decode b_MA_takeName 71 = .ok (.getfield 9, 3) := by decide +kernel
theorem d_MA_takeName_74 : decode b_MA_takeName 74 = .ok (.iconst 0, 1) := by decide +kernel
theorem d_MA_takeName_75 : decode b_MA_takeName 75 = .ok (.iconst 0, 1) := by decide +kernel
theorem d_MA_takeName_76 : decode b_MA_takeName 76 = .ok (.bastore, 1) := by decide +kernel
theorem d_MA_takeName_77 : decode b_MA_takeName 77 = .ok (.return_, 1) := by decide +kernel
abbrev w_MA_takeName : List Cond := Cond.code y_MA_takeName b_MA_takeName 9 none :: ig_T
theorem g_MA_takeName : GoodIn ig_T w_MA_takeName := ig_T_good (ig_T_mem (List.mem_append_right _ (List.mem_append_left _ (List.mem_of_getElem? (i := 68) rfl))) rfl)
set_option maxHeartbeats 4000000 in
set_option maxRecDepth 100000 in
theorem c_MA_takeName (l : Launch) (dC : Nat → ClassId) (dI : Nat → Nat → Nat) (cC cI cZ cL : ClassId) (m0 mn mb qt p0 pb ps : Nat) (pC : Int32) (mN : Nat → Bool) (mB : Nat → Bool) (tT : Nat → Int32) (pB : Nat → Int32) (pS : Nat → Nat) (f : Nat) (a : Nat) (n : Nat) (la : Bool) (sz : Nat) (hr : r_MA_takeName mN mB tT pB pS f a n la) : Met l y_MA_takeName w_MA_takeName ({ frames := 2, cells := 0, slots := 0, locals := 59 }) (ig_Pc (dC, dI) ig_cl0 [(cC, .char), (cI, .int), (cZ, .boolean), (cL, .long)] [.ref m0, .ref qt, .int (nI f), .int (nI a), .ref p0, .int (nI n), .int (bI la)] [(m0, .inr (ciMA, [.ref mn, .ref mb])), (mn, .inl (cZ, 21, .inl (fun j => bI (mN j)))), (mb, .inl (cZ, 121, .inl (fun j => bI (mB j)))), (qt, .inl (cC, 1000, .inl tT)), (p0, .inr (ciPA, [.ref pb, .ref ps, .int pC])), (pb, .inl (cC, 120, .inl pB)), (ps, .inl (cI, 21, .inl (fun j => nI (pS j))))] sz) (va_Qv (fun (u : (Nat → Bool) × (Nat → Bool)) => p_MA_takeName mN mB tT pB pS f a n la u.1 u.2) (fun u t => va_P (dC, dI) ig_cl0 ((fun (u : (Nat → Bool) × (Nat → Bool)) => [(m0, .inr (ciMA, [.ref mn, .ref mb])), (mn, .inl (cZ, 21, .inl (fun j => bI (u.1 j)))), (mb, .inl (cZ, 121, .inl (fun j => bI (u.2 j)))), (qt, .inl (cC, 1000, .inl tT)), (p0, .inr (ciPA, [.ref pb, .ref ps, .int pC])), (pb, .inl (cC, 120, .inl pB)), (ps, .inl (cI, 21, .inl (fun j => nI (pS j))))]) u) t.heap ∧ va_D (va_A [(m0, .inr (ciMA, [.ref mn, .ref mb])), (mn, .inl (cZ, 21, .inl (fun j => bI (mN j)))), (mb, .inl (cZ, 121, .inl (fun j => bI (mB j)))), (qt, .inl (cC, 1000, .inl tT)), (p0, .inr (ciPA, [.ref pb, .ref ps, .int pC])), (pb, .inl (cC, 120, .inl pB)), (ps, .inl (cI, 21, .inl (fun j => nI (pS j))))] sz) ((fun (u : (Nat → Bool) × (Nat → Bool)) => [(m0, .inr (ciMA, [.ref mn, .ref mb])), (mn, .inl (cZ, 21, .inl (fun j => bI (u.1 j)))), (mb, .inl (cZ, 121, .inl (fun j => bI (u.2 j)))), (qt, .inl (cC, 1000, .inl tT)), (p0, .inr (ciPA, [.ref pb, .ref ps, .int pC])), (pb, .inl (cC, 120, .inl pB)), (ps, .inl (cI, 21, .inl (fun j => nI (pS j))))]) u)) (va_A [(m0, .inr (ciMA, [.ref mn, .ref mb])), (mn, .inl (cZ, 21, .inl (fun j => bI (mN j)))), (mb, .inl (cZ, 121, .inl (fun j => bI (mB j)))), (qt, .inl (cC, 1000, .inl tT)), (p0, .inr (ciPA, [.ref pb, .ref ps, .int pC])), (pb, .inl (cC, 120, .inl pB)), (ps, .inl (cI, 21, .inl (fun j => nI (pS j))))] sz)) 0 0 (va_A [(m0, .inr (ciMA, [.ref mn, .ref mb])), (mn, .inl (cZ, 21, .inl (fun j => bI (mN j)))), (mb, .inl (cZ, 121, .inl (fun j => bI (mB j)))), (qt, .inl (cC, 1000, .inl tT)), (p0, .inr (ciPA, [.ref pb, .ref ps, .int pC])), (pb, .inl (cC, 120, .inl pB)), (ps, .inl (cI, 21, .inl (fun j => nI (pS j))))] sz) := by
  refine ig_metV (fun (u : (Nat → Bool) × (Nat → Bool)) => p_MA_takeName mN mB tT pB pS f a n la u.1 u.2) (fun (u : (Nat → Bool) × (Nat → Bool)) => [(m0, .inr (ciMA, [.ref mn, .ref mb])), (mn, .inl (cZ, 21, .inl (fun j => bI (u.1 j)))), (mb, .inl (cZ, 121, .inl (fun j => bI (u.2 j)))), (qt, .inl (cC, 1000, .inl tT)), (p0, .inr (ciPA, [.ref pb, .ref ps, .int pC])), (pb, .inl (cC, 120, .inl pB)), (ps, .inl (cI, 21, .inl (fun j => nI (pS j))))]) (by decide) rfl (Nat.le_of_ble_eq_true rfl) rfl ?_
  intro zp ze zs zm zargs zbelow zmeth zc zA zQ hx hb hml hown hts hK hN hA hret
  obtain ⟨K17, hK17⟩ : ∃ K : Nat → Nat → (Nat → Bool) → (Nat → Bool) → Prop, K = fun (w : Nat) (x : Nat) (mNc : Nat → Bool) (mBc : Nat → Bool) => ig_W zp l ze ({ frames := 2, cells := 0, slots := 0, locals := 59 }) zs zm zargs zbelow zmeth zc (dC, dI) ig_cl0 zA zs.heap 9 0 0 zQ 17 [(0, .ref m0), (1, .ref qt), (2, .int (nI f)), (3, .int (nI a)), (4, .ref p0), (7, .int (nI w)), (8, .int (nI x))] [] [(m0, .inr (ciMA, [.ref mn, .ref mb])), (mn, .inl (cZ, 21, .inl (fun j => bI (mNc j)))), (mb, .inl (cZ, 121, .inl (fun j => bI (mBc j)))), (qt, .inl (cC, 1000, .inl tT)), (p0, .inr (ciPA, [.ref pb, .ref ps, .int pC])), (pb, .inl (cC, 120, .inl pB)), (ps, .inl (cI, 21, .inl (fun j => nI (pS j))))] := ⟨_, rfl⟩
  have j63 : ∀ (w : Nat) (x : Nat) (s0 : Bool) (s1 : Nat) (mNc : Nat → Bool) (mBc : Nat → Bool), v_MA_takeName_63 mN mB tT pB pS f a n la K17 (p_MA_takeName mN mB tT pB pS f a n la) w x s0 s1 mNc mBc → ig_W zp l ze ({ frames := 2, cells := 0, slots := 0, locals := 59 }) zs zm zargs zbelow zmeth zc (dC, dI) ig_cl0 zA zs.heap 9 0 0 zQ 63 [(0, .ref m0), (1, .ref qt), (2, .int (nI f)), (3, .int (nI a)), (4, .ref p0), (7, .int (nI w)), (8, .int (nI x))] [.int (bI s0), .int (nI s1), .ref mn] [(m0, .inr (ciMA, [.ref mn, .ref mb])), (mn, .inl (cZ, 21, .inl (fun j => bI (mNc j)))), (mb, .inl (cZ, 121, .inl (fun j => bI (mBc j)))), (qt, .inl (cC, 1000, .inl tT)), (p0, .inr (ciPA, [.ref pb, .ref ps, .int pC])), (pb, .inl (cC, 120, .inl pB)), (ps, .inl (cI, 21, .inl (fun j => nI (pS j))))] := by
    intro w x s0 s1 mNc mBc hv
    unfold v_MA_takeName_63 at hv
    obtain ⟨hc, hv⟩ := hv
    refine ig_zast (f' := fun j => bI ((updB mNc s1 s0) j)) (ws' := [(m0, .inr (ciMA, [.ref mn, .ref mb])), (mn, .inl (cZ, 21, .inl (fun j => bI ((updB mNc s1 s0) j)))), (mb, .inl (cZ, 121, .inl (fun j => bI (mBc j)))), (qt, .inl (cC, 1000, .inl tT)), (p0, .inr (ciPA, [.ref pb, .ref ps, .int pC])), (pb, .inl (cC, 120, .inl pB)), (ps, .inl (cI, 21, .inl (fun j => nI (pS j))))]) hx hb hK 1 2 rfl rfl s1 rfl hc (by decide) (bI_nar s0) (upd_B mNc s1 s0) d_MA_takeName_63 rfl ?_
    obtain ⟨hc, hv⟩ := hv
    refine ig_iinc (v := (nI (x - 1))) (lv' := [(8, .int (nI (x - 1))), (0, .ref m0), (1, .ref qt), (2, .int (nI f)), (3, .int (nI a)), (4, .ref p0), (7, .int (nI w))]) hx hb 6 d_MA_takeName_64 rfl (ig_dec 1 hc (by decide)) (by decide) rfl ?_
    refine ig_goto (tgt := 17) hx hb d_MA_takeName_67 (by decide) ?_
    refine ig_lv (lv' := [(0, .ref m0), (1, .ref qt), (2, .int (nI f)), (3, .int (nI a)), (4, .ref p0), (7, .int (nI w)), (8, .int (nI (x - 1)))]) [1, 2, 3, 4, 5, 6, 0] rfl ?_
    rw [hK17] at hv
    exact hv
  have j62 : ∀ (w : Nat) (x : Nat) (s0 : Nat) (mNc : Nat → Bool) (mBc : Nat → Bool), v_MA_takeName_62 mN mB tT pB pS f a n la K17 (p_MA_takeName mN mB tT pB pS f a n la) w x s0 mNc mBc → ig_W zp l ze ({ frames := 2, cells := 0, slots := 0, locals := 59 }) zs zm zargs zbelow zmeth zc (dC, dI) ig_cl0 zA zs.heap 9 0 0 zQ 62 [(0, .ref m0), (1, .ref qt), (2, .int (nI f)), (3, .int (nI a)), (4, .ref p0), (7, .int (nI w)), (8, .int (nI x))] [.int (nI s0), .ref mn] [(m0, .inr (ciMA, [.ref mn, .ref mb])), (mn, .inl (cZ, 21, .inl (fun j => bI (mNc j)))), (mb, .inl (cZ, 121, .inl (fun j => bI (mBc j)))), (qt, .inl (cC, 1000, .inl tT)), (p0, .inr (ciPA, [.ref pb, .ref ps, .int pC])), (pb, .inl (cC, 120, .inl pB)), (ps, .inl (cI, 21, .inl (fun j => nI (pS j))))] := by
    intro w x s0 mNc mBc hv
    unfold v_MA_takeName_62 at hv
    refine ig_iconst (v := 0) hx hb d_MA_takeName_62 (by decide) ?_
    refine ig_lv (lv' := [(0, .ref m0), (1, .ref qt), (2, .int (nI f)), (3, .int (nI a)), (4, .ref p0), (7, .int (nI w)), (8, .int (nI x))]) [0, 1, 2, 3, 4, 5, 6] rfl ?_
    exact j63 _ _ _ _ _ _ hv
  have k17 : ∀ (w : Nat) (x : Nat) (mNc : Nat → Bool) (mBc : Nat → Bool), v_MA_takeName_17 mN mB tT pB pS f a n la K17 (p_MA_takeName mN mB tT pB pS f a n la) w x mNc mBc → K17 w x mNc mBc := by
    intro w x mNc mBc hv
    unfold v_MA_takeName_17 at hv
    rw [hK17]
    show ig_W zp l ze ({ frames := 2, cells := 0, slots := 0, locals := 59 }) zs zm zargs zbelow zmeth zc (dC, dI) ig_cl0 zA zs.heap 9 0 0 zQ 17 [(0, .ref m0), (1, .ref qt), (2, .int (nI f)), (3, .int (nI a)), (4, .ref p0), (7, .int (nI w)), (8, .int (nI x))] [] [(m0, .inr (ciMA, [.ref mn, .ref mb])), (mn, .inl (cZ, 21, .inl (fun j => bI (mNc j)))), (mb, .inl (cZ, 121, .inl (fun j => bI (mBc j)))), (qt, .inl (cC, 1000, .inl tT)), (p0, .inr (ciPA, [.ref pb, .ref ps, .int pC])), (pb, .inl (cC, 120, .inl pB)), (ps, .inl (cI, 21, .inl (fun j => nI (pS j))))]
    refine ig_iload hx hb 6 d_MA_takeName_17 rfl ?_
    refine ig_iload hx hb 5 d_MA_takeName_19 rfl ?_
    obtain ⟨h1, hv⟩ := hv
    obtain ⟨h2, hv⟩ := hv
    refine ig_icmp_ltN (tgt := 70) hx hb x w rfl rfl d_MA_takeName_21 (by decide) h1 h2 (fun h => ?_) (fun h => ?_)
    · have hv := hv.1 h
      refine ig_aload_n hx hb 0 d_MA_takeName_70 rfl rfl ?_
      refine ig_get hx hb hts in_MA hown hK 0 rfl rfl 0 (by decide) (hts _ kw_0_81) (fun _ h => h) rfl d_MA_takeName_71 ?_
      refine ig_iconst (v := 0) hx hb d_MA_takeName_74 (by decide) ?_
      refine ig_iconst (v := 0) hx hb d_MA_takeName_75 (by decide) ?_
      obtain ⟨hc, hv⟩ := hv
      refine ig_zast (f' := fun j => bI ((updB mNc 0 false) j)) (ws' := [(m0, .inr (ciMA, [.ref mn, .ref mb])), (mn, .inl (cZ, 21, .inl (fun j => bI ((updB mNc 0 false) j)))), (mb, .inl (cZ, 121, .inl (fun j => bI (mBc j)))), (qt, .inl (cC, 1000, .inl tT)), (p0, .inr (ciPA, [.ref pb, .ref ps, .int pC])), (pb, .inl (cC, 120, .inl pB)), (ps, .inl (cI, 21, .inl (fun j => nI (pS j))))]) hx hb hK 1 2 rfl rfl 0 rfl hc (by decide) (bI_nar false) (upd_B mNc 0 false) d_MA_takeName_76 rfl ?_
      exact hret 77 _ (updB mNc 0 false, mBc) d_MA_takeName_77 hv
    · have hv := hv.2 h
      refine ig_aload_n hx hb 0 d_MA_takeName_24 rfl rfl ?_
      refine ig_get hx hb hts in_MA hown hK 0 rfl rfl 0 (by decide) (hts _ kw_0_81) (fun _ h => h) rfl d_MA_takeName_25 ?_
      refine ig_iload hx hb 6 d_MA_takeName_28 rfl ?_
      refine ig_aload_n hx hb 0 d_MA_takeName_30 rfl rfl ?_
      refine ig_get hx hb hts in_MA hown hK 0 rfl rfl 0 (by decide) (hts _ kw_0_81) (fun _ h => h) rfl d_MA_takeName_31 ?_
      refine ig_iload hx hb 6 d_MA_takeName_34 rfl ?_
      refine ig_iconst (v := 1) hx hb d_MA_takeName_36 (by decide) ?_
      obtain ⟨hc, hv⟩ := hv
      refine ig_isubN hx hb x 1 rfl rfl hc d_MA_takeName_37 ?_
      obtain ⟨hc, hv⟩ := hv
      refine ig_zald (x := (bI (mNc (x - 1)))) hx hb hK 1 2 rfl rfl (x - 1) rfl hc (by decide) rfl d_MA_takeName_38 ?_
      refine ig_if_eqB (tgt := 62) hx hb (mNc (x - 1)) rfl d_MA_takeName_39 (by decide) (fun h => ?_) (fun h => ?_)
      · have hv := hv.1 h
        refine ig_lv (lv' := [(0, .ref m0), (1, .ref qt), (2, .int (nI f)), (3, .int (nI a)), (4, .ref p0), (7, .int (nI w)), (8, .int (nI x))]) [0, 1, 2, 3, 4, 5, 6] rfl ?_
        exact j62 _ _ _ _ _ hv
      · have hv := hv.2 h
        refine ig_aload_n hx hb 0 d_MA_takeName_42 rfl rfl ?_
        refine ig_aload_n hx hb 1 d_MA_takeName_43 rfl rfl ?_
        refine ig_iload_n hx hb 2 d_MA_takeName_44 rfl rfl ?_
        refine ig_iload_n hx hb 3 d_MA_takeName_45 rfl rfl ?_
        refine ig_aload hx hb 4 d_MA_takeName_46 rfl ?_
        refine ig_iload hx hb 6 d_MA_takeName_48 rfl ?_
        refine ig_iconst (v := 1) hx hb d_MA_takeName_50 (by decide) ?_
        obtain ⟨hc, hv⟩ := hv
        refine ig_isubN hx hb x 1 rfl rfl hc d_MA_takeName_51 ?_
        obtain ⟨hc, hv⟩ := hv
        refine ig_cVi (As := [.ref qt, .int (nI f), .int (nI a), .ref p0, .int (nI (x - 1))]) (rest := [.int (nI x), .ref mn]) (wr := [(mn, .inl (cZ, 21, .inl (fun j => bI (mNc j))))]) (ws' := fun u => [(m0, .inr (ciMA, [.ref mn, .ref mb])), (mn, .inl (cZ, 21, .inl (fun j => bI (mNc j)))), (mb, .inl (cZ, 121, .inl (fun j => bI (u j)))), (qt, .inl (cC, 1000, .inl tT)), (p0, .inr (ciPA, [.ref pb, .ref ps, .int pC])), (pb, .inl (cC, 120, .inl pB)), (ps, .inl (cI, 21, .inl (fun j => nI (pS j))))]) hx hb hml hown hts hK hN hA (fun sz => c_MA_nameFits l dC dI cC cI cZ cL m0 mn mb qt p0 pb ps pC mBc tT pB pS f a (x - 1) sz hc) ⟨callB_of 5 hts g_MA_nameFits rfl rfl rfl (hts _ kw_0_4) (hts _ kw_1_69) (by decide +kernel) (by decide), (hts _ kw_1_71), (hts _ ks_MA_nameFits)⟩ rfl rfl (Nat.le_of_ble_eq_true rfl) d_MA_takeName_52 (by decide) 0 rfl rfl [0, 2, 3, 4, 5, 6] [1] [1, 0, 2, 3, 4, 5, 6] rfl rfl (by decide) (by decide) (by decide) (fun _ => rfl) (fun _ => rfl) (fun r u hr => ?_)
        obtain ⟨mB1, hu⟩ : ∃ z, z = u := ⟨_, rfl⟩
        subst hu
        obtain ⟨rr, rfl, hr⟩ := hr
        unfold p_MA_nameFits at hr
        subst hr
        have hv := hv mB1
        refine ig_if_eqB (tgt := 62) hx hb (sp_nf tT pB pS f a (x - 1)) rfl d_MA_takeName_55 (by decide) (fun h => ?_) (fun h => ?_)
        · have hv := hv.1 h
          refine ig_lv (lv' := [(0, .ref m0), (1, .ref qt), (2, .int (nI f)), (3, .int (nI a)), (4, .ref p0), (7, .int (nI w)), (8, .int (nI x))]) [0, 1, 2, 3, 4, 5, 6] rfl ?_
          exact j62 _ _ _ _ _ hv
        · have hv := hv.2 h
          refine ig_iconst (v := 1) hx hb d_MA_takeName_58 (by decide) ?_
          refine ig_goto (tgt := 63) hx hb d_MA_takeName_59 (by decide) ?_
          refine ig_lv (lv' := [(0, .ref m0), (1, .ref qt), (2, .int (nI f)), (3, .int (nI a)), (4, .ref p0), (7, .int (nI w)), (8, .int (nI x))]) [0, 1, 2, 3, 4, 5, 6] rfl ?_
          exact j63 _ _ _ _ _ _ hv
  have hv := t_MA_takeName mN mB tT pB pS f a n la hr K17 k17
  unfold v_MA_takeName at hv
  refine ig_iload hx hb 6 d_MA_takeName_0 rfl ?_
  refine ig_if_eqB (tgt := 10) hx hb la rfl d_MA_takeName_2 (by decide) (fun h => ?_) (fun h => ?_)
  · have hv := hv.1 h
    refine ig_iconst (v := 1) hx hb d_MA_takeName_10 (by decide) ?_
    refine ig_istore (lv' := [(7, .int 1), (0, .ref m0), (1, .ref qt), (2, .int (nI f)), (3, .int (nI a)), (4, .ref p0), (5, .int (nI n)), (6, .int (bI la))]) hx hb d_MA_takeName_11 (by decide) rfl ?_
    refine ig_iload hx hb 6 d_MA_takeName_13 rfl ?_
    refine ig_istore (lv' := [(8, .int (nI n)), (7, .int 1), (0, .ref m0), (1, .ref qt), (2, .int (nI f)), (3, .int (nI a)), (4, .ref p0), (5, .int (nI n)), (6, .int (bI la))]) hx hb d_MA_takeName_15 (by decide) rfl ?_
    refine ig_lv (lv' := [(0, .ref m0), (1, .ref qt), (2, .int (nI f)), (3, .int (nI a)), (4, .ref p0), (7, .int 1), (8, .int (nI n))]) [2, 3, 4, 5, 6, 1, 0] rfl ?_
    rw [hK17] at hv
    exact hv
  · have hv := hv.2 h
    refine ig_iload hx hb 5 d_MA_takeName_5 rfl ?_
    refine ig_goto (tgt := 11) hx hb d_MA_takeName_7 (by decide) ?_
    refine ig_istore (lv' := [(7, .int (nI n)), (0, .ref m0), (1, .ref qt), (2, .int (nI f)), (3, .int (nI a)), (4, .ref p0), (5, .int (nI n)), (6, .int (bI la))]) hx hb d_MA_takeName_11 (by decide) rfl ?_
    refine ig_iload hx hb 6 d_MA_takeName_13 rfl ?_
    refine ig_istore (lv' := [(8, .int (nI n)), (7, .int (nI n)), (0, .ref m0), (1, .ref qt), (2, .int (nI f)), (3, .int (nI a)), (4, .ref p0), (5, .int (nI n)), (6, .int (bI la))]) hx hb d_MA_takeName_15 (by decide) rfl ?_
    refine ig_lv (lv' := [(0, .ref m0), (1, .ref qt), (2, .int (nI f)), (3, .int (nI a)), (4, .ref p0), (7, .int (nI n)), (8, .int (nI n))]) [2, 3, 4, 5, 6, 1, 0] rfl ?_
    rw [hK17] at hv
    exact hv
end
section
def r_RL_add (tT : Nat → Int32) (aS : Nat → Nat) (aE : Nat → Nat) (aB : Nat → Nat) (aL : Nat → Nat) (nC : Nat) (f : Nat) (a : Nat) (no : Nat) : Prop := f < a ∧ a ≤ 1000 ∧ nC < 60
def p_RL_add (tT : Nat → Int32) (aS : Nat → Nat) (aE : Nat → Nat) (aB : Nat → Nat) (aL : Nat → Nat) (nC : Nat) (f : Nat) (a : Nat) (no : Nat) (aS' : Nat → Nat) (aE' : Nat → Nat) (aB' : Nat → Nat) (aL' : Nat → Nat) (nC' : Nat) : Prop := aS' = (updN aS nC (sp_fr tT f a)) ∧ aE' = (updN aE nC (sp_e1 tT f a)) ∧ aB' = (updN aB nC (sp_bits tT f a)) ∧ aL' = (updN aL nC no) ∧ nC' = (nC + 1)
def v_RL_add_125 (tT : Nat → Int32) (aS : Nat → Nat) (aE : Nat → Nat) (aB : Nat → Nat) (aL : Nat → Nat) (nC : Nat) (f : Nat) (a : Nat) (no : Nat) (Q : (Nat → Nat) → (Nat → Nat) → (Nat → Nat) → (Nat → Nat) → Nat → Prop) (g : Nat) (b : Nat) (x : Nat) (nCc : Nat) (aSc : Nat → Nat) (aEc : Nat → Nat) (aBc : Nat → Nat) (aLc : Nat → Nat) : Prop := (nCc < 60) ∧ ((nCc < 60) ∧ ((nCc < 60) ∧ ((nCc < 60) ∧ (Q (updN aSc nCc g) (updN aEc nCc b) (updN aBc nCc x) (updN aLc nCc no) (nCc + 1)))))
def v_RL_add_107 (tT : Nat → Int32) (aS : Nat → Nat) (aE : Nat → Nat) (aB : Nat → Nat) (aL : Nat → Nat) (nC : Nat) (f : Nat) (a : Nat) (no : Nat) (Q : (Nat → Nat) → (Nat → Nat) → (Nat → Nat) → (Nat → Nat) → Nat → Prop) (g : Nat) (b : Nat) (x : Nat) (nCc : Nat) (aSc : Nat → Nat) (aEc : Nat → Nat) (aBc : Nat → Nat) (aLc : Nat → Nat) : Prop := (r_RL_hasVoidName tT g b) ∧ ((sp_hv tT b g = false → v_RL_add_125 tT aS aE aB aL nC f a no Q g b x nCc aSc aEc aBc aLc) ∧ (sp_hv tT b g = true → v_RL_add_125 tT aS aE aB aL nC f a no Q g b (x ||| 8) nCc aSc aEc aBc aLc))
def v_RL_add_73 (tT : Nat → Int32) (aS : Nat → Nat) (aE : Nat → Nat) (aB : Nat → Nat) (aL : Nat → Nat) (nC : Nat) (f : Nat) (a : Nat) (no : Nat) (Q : (Nat → Nat) → (Nat → Nat) → (Nat → Nat) → (Nat → Nat) → Nat → Prop) (g : Nat) (b : Nat) (x : Nat) (nCc : Nat) (aSc : Nat → Nat) (aEc : Nat → Nat) (aBc : Nat → Nat) (aLc : Nat → Nat) : Prop := (r_RL_endOfName tT g b) ∧ ((sp_eon tT b g < 2147483648) ∧ ((b < 2147483648) ∧ ((b ≤ sp_eon tT b g → v_RL_add_107 tT aS aE aB aL nC f a no Q g b x nCc aSc aEc aBc aLc) ∧ (¬ b ≤ sp_eon tT b g → (g < 1000) ∧ ((¬ (tT g) = 47 → v_RL_add_107 tT aS aE aB aL nC f a no Q g b (x ||| 4) nCc aSc aEc aBc aLc) ∧ ((tT g) = 47 → v_RL_add_107 tT aS aE aB aL nC f a no Q (g + 1) b (x ||| 4) nCc aSc aEc aBc aLc))))))
def v_RL_add_30 (tT : Nat → Int32) (aS : Nat → Nat) (aE : Nat → Nat) (aB : Nat → Nat) (aL : Nat → Nat) (nC : Nat) (f : Nat) (a : Nat) (no : Nat) (Q : (Nat → Nat) → (Nat → Nat) → (Nat → Nat) → (Nat → Nat) → Nat → Prop) (g : Nat) (b : Nat) (x : Nat) (nCc : Nat) (aSc : Nat → Nat) (aEc : Nat → Nat) (aBc : Nat → Nat) (aLc : Nat → Nat) : Prop := (g < 2147483648) ∧ ((b < 2147483648) ∧ ((b ≤ g → v_RL_add_73 tT aS aE aB aL nC f a no Q g b x nCc aSc aEc aBc aLc) ∧ (¬ b ≤ g → (1 ≤ b) ∧ ((b - 1 < 1000) ∧ ((¬ (tT (b - 1)) = 47 → v_RL_add_73 tT aS aE aB aL nC f a no Q g b x nCc aSc aEc aBc aLc) ∧ ((tT (b - 1)) = 47 → (1 ≤ b) ∧ ((r_RL_isEscaped tT g (b - 1)) ∧ ((sp_esc tT g (b - 1) = true → v_RL_add_73 tT aS aE aB aL nC f a no Q g b x nCc aSc aEc aBc aLc) ∧ (sp_esc tT g (b - 1) = false → (1 ≤ b) ∧ (v_RL_add_73 tT aS aE aB aL nC f a no Q g (b - 1) (x ||| 2) nCc aSc aEc aBc aLc))))))))))
def v_RL_add (tT : Nat → Int32) (aS : Nat → Nat) (aE : Nat → Nat) (aB : Nat → Nat) (aL : Nat → Nat) (nC : Nat) (f : Nat) (a : Nat) (no : Nat) (Q : (Nat → Nat) → (Nat → Nat) → (Nat → Nat) → (Nat → Nat) → Nat → Prop) : Prop := (f < 1000) ∧ ((¬ (tT f) = 33 → v_RL_add_30 tT aS aE aB aL nC f a no Q f a 0 nC aS aE aB aL) ∧ ((tT f) = 33 → v_RL_add_30 tT aS aE aB aL nC f a no Q (f + 1) a (0 ||| 1) nC aS aE aB aL))
theorem t_RL_add (tT : Nat → Int32) (aS : Nat → Nat) (aE : Nat → Nat) (aB : Nat → Nat) (aL : Nat → Nat) (nC : Nat) (f : Nat) (a : Nat) (no : Nat) (hr : r_RL_add tT aS aE aB aL nC f a no)  : v_RL_add tT aS aE aB aL nC f a no (p_RL_add tT aS aE aB aL nC f a no) := by
  obtain ⟨h1, h2, h3⟩ := hr
  have l1 := sp_a1_le (t := tT) h1
  have l2 := sp_e1_le (t := tT) h1
  have l3 := sp_fr_le (t := tT) h1
  have q33 : (if tT f = 33 then 1 else 0 : Nat) < 2 := by split <;> decide
  have qd : (if sp_dir tT f a = true then 2 else 0 : Nat) ≤ 2 := by split <;> decide
  have qb : (if sp_bnd tT f a = true then 4 else 0 : Nat) ≤ 4 := by split <;> decide
  have s125 : ∀ g b x, g = sp_fr tT f a → b = sp_e1 tT f a → x = sp_bits tT f a → v_RL_add_125 tT aS aE aB aL nC f a no (p_RL_add tT aS aE aB aL nC f a no) g b x nC aS aE aB aL := by
    intro g b x hg hb hx
    subst hg hb hx
    unfold v_RL_add_125
    exact ⟨h3, h3, h3, h3, rfl, rfl, rfl, rfl, rfl⟩
  have s107 : ∀ g b x, g = sp_fr tT f a → b = sp_e1 tT f a → x = (if tT f = 33 then 1 else 0) + (if sp_dir tT f a = true then 2 else 0) + (if sp_bnd tT f a = true then 4 else 0) → v_RL_add_107 tT aS aE aB aL nC f a no (p_RL_add tT aS aE aB aL nC f a no) g b x nC aS aE aB aL := by
    intro g b x hg hb hx
    unfold v_RL_add_107
    refine ⟨⟨by omega, by omega⟩, fun h => s125 _ _ _ hg hb ?_, fun h => s125 _ _ _ hg hb ?_⟩
    · rw [hg, hb] at h
      have h' : ¬ sp_hv tT (sp_e1 tT f a) (sp_fr tT f a) = true := by rw [h]; decide
      rw [sp_bits, if_neg h', hx, Nat.add_zero]
    · rw [hg, hb] at h
      rw [sp_bits, if_pos h, sp_or8 x (by omega), hx]
  have s73 : ∀ g b x, g = sp_a1 tT f → b = sp_e1 tT f a → x = (if tT f = 33 then 1 else 0) + (if sp_dir tT f a = true then 2 else 0) → v_RL_add_73 tT aS aE aB aL nC f a no (p_RL_add tT aS aE aB aL nC f a no) g b x nC aS aE aB aL := by
    intro g b x hg hb hx
    have hle := sp_eon_le (t := tT) (e := b) (k := g) (by omega)
    have hge := sp_eon_ge tT b g
    have hF : b ≤ sp_eon tT b g → ¬ sp_bnd tT f a = true := by
      intro h q
      rw [sp_bnd, decide_eq_true_eq, ← hg, ← hb] at q
      omega
    have hT : ¬ b ≤ sp_eon tT b g → sp_bnd tT f a = true := by
      intro h
      rw [sp_bnd, decide_eq_true_eq, ← hg, ← hb]
      omega
    unfold v_RL_add_73
    refine ⟨⟨by omega, by omega⟩, by omega, by omega, fun h => s107 _ _ _ ?_ hb ?_, fun h => ⟨by omega, fun h47 => s107 _ _ _ ?_ hb ?_, fun h47 => s107 _ _ _ ?_ hb ?_⟩⟩
    · rw [sp_fr, if_neg, hg]
      rintro ⟨q, -⟩
      exact hF h q
    · rw [if_neg (hF h), hx, Nat.add_zero]
    · rw [sp_fr, if_neg, hg]
      rintro ⟨-, q⟩
      rw [← hg] at q
      exact h47 q
    · rw [if_pos (hT h), sp_or4 x (by omega), hx]
    · rw [sp_fr, if_pos ⟨hT h, by rw [← hg]; exact h47⟩, hg]
    · rw [if_pos (hT h), sp_or4 x (by omega), hx]
  have s30 : ∀ g x, g = sp_a1 tT f → x = (if tT f = 33 then 1 else 0) → v_RL_add_30 tT aS aE aB aL nC f a no (p_RL_add tT aS aE aB aL nC f a no) g a x nC aS aE aB aL := by
    intro g x hg hx
    have no' : ¬ sp_dir tT f a = true → v_RL_add_73 tT aS aE aB aL nC f a no (p_RL_add tT aS aE aB aL nC f a no) g a x nC aS aE aB aL := by
      intro hd
      refine s73 _ _ _ hg ?_ ?_
      · rw [sp_e1, if_neg hd]
      · rw [if_neg hd, hx, Nat.add_zero]
    unfold v_RL_add_30
    refine ⟨by omega, by omega, fun h => no' ?_, fun h => ⟨by omega, by omega, fun h47 => no' ?_, fun h47 => ⟨by omega, ⟨by omega, by omega⟩, fun he => no' ?_, fun he => ⟨by omega, ?_⟩⟩⟩⟩
    · intro q
      rw [sp_dir, Bool.and_eq_true, decide_eq_true_eq, ← hg] at q
      omega
    · intro q
      rw [sp_dir, Bool.and_eq_true, decide_eq_true_eq] at q
      exact h47 q.1.2
    · intro q
      rw [sp_dir, Bool.and_eq_true, ← hg, he] at q
      exact absurd q.2 (by decide)
    · have hd : sp_dir tT f a = true := by
        rw [sp_dir, Bool.and_eq_true, decide_eq_true_eq, ← hg, he]
        exact ⟨⟨by omega, h47⟩, rfl⟩
      refine s73 _ _ _ hg ?_ ?_
      · rw [sp_e1, if_pos hd]
      · rw [if_pos hd, sp_or2 x (by omega), hx]
  unfold v_RL_add
  refine ⟨by omega, fun h => s30 _ _ ?_ ?_, fun h => s30 _ _ ?_ ?_⟩
  · rw [sp_a1, if_neg h]
  · rw [if_neg h]
  · rw [sp_a1, if_pos h]
  · rw [if_pos h]
    rfl

def r_RL_load (tT : Nat → Int32) (aS : Nat → Nat) (aE : Nat → Nat) (aB : Nat → Nat) (aL : Nat → Nat) (nC : Nat) (sT : Nat → Int32) (n : Nat) : Prop := n ≤ 1000 ∧ ∀ k, k < n → vp_nar .char (sT k) = sT k
def q_RL_load (tT : Nat → Int32) (aS : Nat → Nat) (aE : Nat → Nat) (aB : Nat → Nat) (aL : Nat → Nat) (nC : Nat) (sT : Nat → Int32) (n : Nat) (r : Bool) (tT' : Nat → Int32) (aS' : Nat → Nat) (aE' : Nat → Nat) (aB' : Nat → Nat) (aL' : Nat → Nat) (nC' : Nat) : Prop := r = decide ((sp_rules tT' n).length ≤ 60) ∧ (∀ k, k < n → tT' k = sT k) ∧ (r = true → nC' = (sp_rules tT' n).length ∧ sp_hold aS' aE' aB' aL' (sp_rules tT' n))
def p_RL_load (tT : Nat → Int32) (aS : Nat → Nat) (aE : Nat → Nat) (aB : Nat → Nat) (aL : Nat → Nat) (nC : Nat) (sT : Nat → Int32) (n : Nat) (r : Bool) (tT' : Nat → Int32) (aS' : Nat → Nat) (aE' : Nat → Nat) (aB' : Nat → Nat) (aL' : Nat → Nat) (nC' : Nat) : Prop := q_RL_load tT aS aE aB aL nC sT n r tT' aS' aE' aB' aL' nC'
def v_RL_load_111 (tT : Nat → Int32) (aS : Nat → Nat) (aE : Nat → Nat) (aB : Nat → Nat) (aL : Nat → Nat) (nC : Nat) (sT : Nat → Int32) (n : Nat) (K2 : Nat → Nat → (Nat → Int32) → (Nat → Nat) → (Nat → Nat) → (Nat → Nat) → (Nat → Nat) → Prop) (K35 : Nat → Nat → Nat → Nat → (Nat → Int32) → (Nat → Nat) → (Nat → Nat) → (Nat → Nat) → (Nat → Nat) → Prop) (Q : Bool → (Nat → Int32) → (Nat → Nat) → (Nat → Nat) → (Nat → Nat) → (Nat → Nat) → Nat → Prop) (x : Nat) (b : Nat) (nCc : Nat) (tTc : Nat → Int32) (aSc : Nat → Nat) (aEc : Nat → Nat) (aBc : Nat → Nat) (aLc : Nat → Nat) : Prop := K35 (x + 1) (b + 1) (b + 1) nCc tTc aSc aEc aBc aLc
def v_RL_load_62 (tT : Nat → Int32) (aS : Nat → Nat) (aE : Nat → Nat) (aB : Nat → Nat) (aL : Nat → Nat) (nC : Nat) (sT : Nat → Int32) (n : Nat) (K2 : Nat → Nat → (Nat → Int32) → (Nat → Nat) → (Nat → Nat) → (Nat → Nat) → (Nat → Nat) → Prop) (K35 : Nat → Nat → Nat → Nat → (Nat → Int32) → (Nat → Nat) → (Nat → Nat) → (Nat → Nat) → (Nat → Nat) → Prop) (Q : Bool → (Nat → Int32) → (Nat → Nat) → (Nat → Nat) → (Nat → Nat) → (Nat → Nat) → Nat → Prop) (x : Nat) (g : Nat) (b : Nat) (nCc : Nat) (tTc : Nat → Int32) (aSc : Nat → Nat) (aEc : Nat → Nat) (aBc : Nat → Nat) (aLc : Nat → Nat) : Prop := (r_RL_withoutBlanks tTc g b) ∧ ((g < 2147483648) ∧ ((sp_strip tTc g b < 2147483648) ∧ ((sp_strip tTc g b ≤ g → v_RL_load_111 tT aS aE aB aL nC sT n K2 K35 Q x b nCc tTc aSc aEc aBc aLc) ∧ (¬ sp_strip tTc g b ≤ g → (g < 1000) ∧ (((tTc g) = 35 → v_RL_load_111 tT aS aE aB aL nC sT n K2 K35 Q x b nCc tTc aSc aEc aBc aLc) ∧ (¬ (tTc g) = 35 → (nCc < 2147483648) ∧ ((¬ nCc = 60 → (r_RL_add tTc aSc aEc aBc aLc nCc g (sp_strip tTc g b) x) ∧ (v_RL_load_111 tT aS aE aB aL nC sT n K2 K35 Q x b (nCc + 1) tTc (updN aSc nCc (sp_fr tTc g (sp_strip tTc g b))) (updN aEc nCc (sp_e1 tTc g (sp_strip tTc g b))) (updN aBc nCc (sp_bits tTc g (sp_strip tTc g b))) (updN aLc nCc x))) ∧ (nCc = 60 → Q false tTc aSc aEc aBc aLc nCc))))))))
def v_RL_load_2 (tT : Nat → Int32) (aS : Nat → Nat) (aE : Nat → Nat) (aB : Nat → Nat) (aL : Nat → Nat) (nC : Nat) (sT : Nat → Int32) (n : Nat) (K2 : Nat → Nat → (Nat → Int32) → (Nat → Nat) → (Nat → Nat) → (Nat → Nat) → (Nat → Nat) → Prop) (K35 : Nat → Nat → Nat → Nat → (Nat → Int32) → (Nat → Nat) → (Nat → Nat) → (Nat → Nat) → (Nat → Nat) → Prop) (Q : Bool → (Nat → Int32) → (Nat → Nat) → (Nat → Nat) → (Nat → Nat) → (Nat → Nat) → Nat → Prop) (x : Nat) (nCc : Nat) (tTc : Nat → Int32) (aSc : Nat → Nat) (aEc : Nat → Nat) (aBc : Nat → Nat) (aLc : Nat → Nat) : Prop := (x < 2147483648) ∧ ((n < 2147483648) ∧ ((n ≤ x → K35 0 0 0 0 tTc aSc aEc aBc aLc) ∧ (¬ n ≤ x → (x < 1000) ∧ ((x < 1000) ∧ ((vp_nar .char (sT x) = (sT x)) ∧ (K2 (x + 1) nCc (upd tTc x (sT x)) aSc aEc aBc aLc))))))
def v_RL_load_35 (tT : Nat → Int32) (aS : Nat → Nat) (aE : Nat → Nat) (aB : Nat → Nat) (aL : Nat → Nat) (nC : Nat) (sT : Nat → Int32) (n : Nat) (K2 : Nat → Nat → (Nat → Int32) → (Nat → Nat) → (Nat → Nat) → (Nat → Nat) → (Nat → Nat) → Prop) (K35 : Nat → Nat → Nat → Nat → (Nat → Int32) → (Nat → Nat) → (Nat → Nat) → (Nat → Nat) → (Nat → Nat) → Prop) (Q : Bool → (Nat → Int32) → (Nat → Nat) → (Nat → Nat) → (Nat → Nat) → (Nat → Nat) → Nat → Prop) (x : Nat) (g : Nat) (b : Nat) (nCc : Nat) (tTc : Nat → Int32) (aSc : Nat → Nat) (aEc : Nat → Nat) (aBc : Nat → Nat) (aLc : Nat → Nat) : Prop := (b < 2147483648) ∧ ((n < 2147483648) ∧ ((n < b → Q true tTc aSc aEc aBc aLc nCc) ∧ (¬ n < b → (b < 2147483648) ∧ ((n < 2147483648) ∧ ((n ≤ b → v_RL_load_62 tT aS aE aB aL nC sT n K2 K35 Q x g b nCc tTc aSc aEc aBc aLc) ∧ (¬ n ≤ b → (b < 1000) ∧ (((tTc b) = 10 → v_RL_load_62 tT aS aE aB aL nC sT n K2 K35 Q x g b nCc tTc aSc aEc aBc aLc) ∧ (¬ (tTc b) = 10 → K35 x g (b + 1) nCc tTc aSc aEc aBc aLc))))))))
def v_RL_load (tT : Nat → Int32) (aS : Nat → Nat) (aE : Nat → Nat) (aB : Nat → Nat) (aL : Nat → Nat) (nC : Nat) (sT : Nat → Int32) (n : Nat) (K2 : Nat → Nat → (Nat → Int32) → (Nat → Nat) → (Nat → Nat) → (Nat → Nat) → (Nat → Nat) → Prop) (K35 : Nat → Nat → Nat → Nat → (Nat → Int32) → (Nat → Nat) → (Nat → Nat) → (Nat → Nat) → (Nat → Nat) → Prop) (Q : Bool → (Nat → Int32) → (Nat → Nat) → (Nat → Nat) → (Nat → Nat) → (Nat → Nat) → Nat → Prop) : Prop := K2 0 nC tT aS aE aB aL
theorem t_RL_load (tT : Nat → Int32) (aS : Nat → Nat) (aE : Nat → Nat) (aB : Nat → Nat) (aL : Nat → Nat) (nC : Nat) (sT : Nat → Int32) (n : Nat) (hr : r_RL_load tT aS aE aB aL nC sT n) (K2 : Nat → Nat → (Nat → Int32) → (Nat → Nat) → (Nat → Nat) → (Nat → Nat) → (Nat → Nat) → Prop) (K35 : Nat → Nat → Nat → Nat → (Nat → Int32) → (Nat → Nat) → (Nat → Nat) → (Nat → Nat) → (Nat → Nat) → Prop) (k2 : ∀ x nCc tTc aSc aEc aBc aLc, v_RL_load_2 tT aS aE aB aL nC sT n K2 K35 (p_RL_load tT aS aE aB aL nC sT n) x nCc tTc aSc aEc aBc aLc → K2 x nCc tTc aSc aEc aBc aLc) (k35 : ∀ x g b nCc tTc aSc aEc aBc aLc, v_RL_load_35 tT aS aE aB aL nC sT n K2 K35 (p_RL_load tT aS aE aB aL nC sT n) x g b nCc tTc aSc aEc aBc aLc → K35 x g b nCc tTc aSc aEc aBc aLc) : v_RL_load tT aS aE aB aL nC sT n K2 K35 (p_RL_load tT aS aE aB aL nC sT n) := by
  obtain ⟨h1, h2⟩ := hr
  have fin : ∀ T : Nat → Int32, (∀ k, k < n → T k = sT k) → ∀ b nCc aSc aEc aBc aLc, b = n + 1 → nCc = (sp_ld T n b).2.2.length → nCc ≤ 60 → sp_hold aSc aEc aBc aLc (sp_ld T n b).2.2 → p_RL_load tT aS aE aB aL nC sT n true T aSc aEc aBc aLc nCc := by
    intro T hT b nCc aSc aEc aBc aLc hb hn h60 hh
    subst hb
    refine ⟨?_, hT, fun _ => ⟨hn, hh⟩⟩
    rw [decide_eq_true]
    rw [sp_rules, ← hn]
    exact h60
  have main : ∀ T : Nat → Int32, (∀ k, k < n → T k = sT k) → ∀ d b nCc aSc aEc aBc aLc, n + 1 - b ≤ d → b ≤ n + 1 → nCc = (sp_ld T n b).2.2.length → nCc ≤ 60 → sp_hold aSc aEc aBc aLc (sp_ld T n b).2.2 → K35 (sp_ld T n b).2.1 (sp_ld T n b).1 b nCc T aSc aEc aBc aLc := by
    intro T hT d
    induction d with
    | zero =>
      intro b nCc aSc aEc aBc aLc hd hb hn h60 hh
      refine k35 _ _ b nCc T aSc aEc aBc aLc ?_
      unfold v_RL_load_35
      exact ⟨by omega, by omega, fun _ => fin T hT b nCc aSc aEc aBc aLc (by omega) hn h60 hh, fun h => by omega⟩
    | succ d ih =>
      intro b nCc aSc aEc aBc aLc hd hb hn h60 hh
      have bb := sp_ld_b T n b
      refine k35 _ _ b nCc T aSc aEc aBc aLc ?_
      by_cases hbn : n < b
      · unfold v_RL_load_35
        exact ⟨by omega, by omega, fun _ => fin T hT b nCc aSc aEc aBc aLc (by omega) hn h60 hh, fun h => by omega⟩
      · have at' : (b = n ∨ T b = 10) → v_RL_load_62 tT aS aE aB aL nC sT n K2 K35 (p_RL_load tT aS aE aB aL nC sT n) (sp_ld T n b).2.1 (sp_ld T n b).1 b nCc T aSc aEc aBc aLc := by
          intro hs
          have e := sp_ld_at hs
          have st1 := sp_strip_le T (sp_ld T n b).1 b
          have st2 := sp_strip_ge (t := T) b bb.1
          have nx : ∀ nC2 a1 a2 a3 a4, nC2 = ((sp_ld T n b).2.2 ++ sp_one T (sp_ld T n b).1 b (sp_ld T n b).2.1).length → nC2 ≤ 60 → sp_hold a1 a2 a3 a4 ((sp_ld T n b).2.2 ++ sp_one T (sp_ld T n b).1 b (sp_ld T n b).2.1) → v_RL_load_111 tT aS aE aB aL nC sT n K2 K35 (p_RL_load tT aS aE aB aL nC sT n) (sp_ld T n b).2.1 b nC2 T a1 a2 a3 a4 := by
            intro nC2 a1 a2 a3 a4 g1 g2 g3
            unfold v_RL_load_111
            have := ih (b + 1) nC2 a1 a2 a3 a4 (by omega) (by omega) (by rw [e]; exact g1) g2 (by rw [e]; exact g3)
            rw [e] at this
            exact this
          have nil : sp_one T (sp_ld T n b).1 b (sp_ld T n b).2.1 = [] → v_RL_load_111 tT aS aE aB aL nC sT n K2 K35 (p_RL_load tT aS aE aB aL nC sT n) (sp_ld T n b).2.1 b nCc T aSc aEc aBc aLc := by
            intro hnil
            refine nx _ _ _ _ _ ?_ h60 ?_
            · rw [hnil, List.append_nil]; exact hn
            · rw [hnil, List.append_nil]; exact hh
          unfold v_RL_load_62
          refine ⟨⟨bb.1, by omega⟩, by omega, by omega, fun h => nil ?_, fun h => ⟨by omega, fun h35 => nil ?_, fun h35 => ⟨by omega, fun hn60 => ⟨⟨by omega, by omega, by omega⟩, ?_⟩, fun hn60 => ?_⟩⟩⟩
          · rw [sp_one, if_pos (Or.inl (by omega))]
          · rw [sp_one, if_pos (Or.inr h35)]
          · have e1 : sp_one T (sp_ld T n b).1 b (sp_ld T n b).2.1 = [(sp_fr T (sp_ld T n b).1 (sp_strip T (sp_ld T n b).1 b), sp_e1 T (sp_ld T n b).1 (sp_strip T (sp_ld T n b).1 b), sp_bits T (sp_ld T n b).1 (sp_strip T (sp_ld T n b).1 b), (sp_ld T n b).2.1)] := by
              rw [sp_one, if_neg]
              rintro (q | q)
              · omega
              · exact h35 q
            refine nx _ _ _ _ _ ?_ (by omega) ?_
            · rw [e1, List.length_append, ← hn]
              rfl
            · rw [e1]
              exact sp_hold_add hn.symm hh
          · refine ⟨?_, hT, fun q => by cases q⟩
            have e1 : (sp_one T (sp_ld T n b).1 b (sp_ld T n b).2.1).length = 1 := by
              rw [sp_one, if_neg]
              · rfl
              · rintro (q | q)
                · omega
                · exact h35 q
            have e2 : (sp_ld T n (b + 1)).2.2.length = 61 := by
              rw [e]
              show ((sp_ld T n b).2.2 ++ _).length = 61
              rw [List.length_append, e1]
              omega
            have e3 := sp_ld_mono (t := T) (n := n) (n - b) (b + 1)
            rw [show b + 1 + (n - b) = n + 1 by omega, e2] at e3
            rw [decide_eq_false]
            rw [sp_rules]
            omega
        unfold v_RL_load_35
        refine ⟨by omega, by omega, fun h => absurd h hbn, fun _ => ⟨by omega, by omega, fun h => at' (Or.inl (by omega)), fun h => ⟨by omega, fun h10 => at' (Or.inr h10), fun h10 => ?_⟩⟩⟩
        have e := sp_ld_no (t := T) (n := n) (k := b) (by rintro (q | q); omega; exact h10 q)
        have := ih (b + 1) nCc aSc aEc aBc aLc (by omega) (by omega) (by rw [e]; exact hn) h60 (by rw [e]; exact hh)
        rw [e] at this
        exact this
  have copy : ∀ d x T, n - x ≤ d → x ≤ n → (∀ k, k < x → T k = sT k) → K2 x nC T aS aE aB aL := by
    intro d
    induction d with
    | zero =>
      intro x T hd hx hI
      refine k2 x nC T aS aE aB aL ?_
      unfold v_RL_load_2
      refine ⟨by omega, by omega, fun h => ?_, fun h => by omega⟩
      exact main T (fun k hk => hI k (by omega)) (n + 1) 0 0 aS aE aB aL (by omega) (by omega) rfl (by omega) sp_hold_0
    | succ d ih =>
      intro x T hd hx hI
      refine k2 x nC T aS aE aB aL ?_
      unfold v_RL_load_2
      refine ⟨by omega, by omega, fun h => ?_, fun h => ⟨by omega, by omega, h2 x (by omega), ?_⟩⟩
      · exact main T (fun k hk => hI k (by omega)) (n + 1) 0 0 aS aE aB aL (by omega) (by omega) rfl (by omega) sp_hold_0
      · refine ih (x + 1) _ (by omega) (by omega) (fun k hk => ?_)
        by_cases hkx : k = x
        · rw [hkx]; exact pk_us
        · rw [pk_un hkx]; exact hI k (by omega)
  exact copy n 0 tT (by omega) (Nat.zero_le _) (fun k hk => absurd hk (Nat.not_lt_zero _))

def r_PA_load (pC : Nat) (pB : Nat → Int32) (pS : Nat → Nat) (sT : Nat → Int32) (n : Nat) : Prop := n ≤ 1000 ∧ pS 0 = 0 ∧ ∀ k, k < n → vp_nar .char (sT k) = sT k
def q_PA_load (pC : Nat) (pB : Nat → Int32) (pS : Nat → Nat) (sT : Nat → Int32) (n : Nat) (r : Bool) (pC' : Nat) (pB' : Nat → Int32) (pS' : Nat → Nat) : Prop := r = sp_pok sT n ∧ pS' 0 = 0 ∧ (r = false → pC' = 0) ∧ (r = true → pC' = 1 + sp_cnt sT n 0 ∧ sp_path sT n pC' pS' pB')
def p_PA_load (pC : Nat) (pB : Nat → Int32) (pS : Nat → Nat) (sT : Nat → Int32) (n : Nat) (r : Bool) (pC' : Nat) (pB' : Nat → Int32) (pS' : Nat → Nat) : Prop := q_PA_load pC pB pS sT n r pC' pB' pS'
def v_PA_load_64 (pC : Nat) (pB : Nat → Int32) (pS : Nat → Nat) (sT : Nat → Int32) (n : Nat) (K18 : Nat → Nat → Nat → (Nat → Int32) → (Nat → Nat) → Prop) (Q : Bool → Nat → (Nat → Int32) → (Nat → Nat) → Prop) (m : Nat) (b : Nat) (pCc : Nat) (pBc : Nat → Int32) (pSc : Nat → Nat) : Prop := (m < 21) ∧ ((b < 2147483648) ∧ ((pSc m < 2147483648) ∧ ((b = pSc m → Q false pCc pBc pSc) ∧ (¬ b = pSc m → (m < 2147483648) ∧ ((¬ m = 20 → (m + 1 < 21) ∧ (K18 (m + 1) (b + 1) pCc pBc (updN pSc (m + 1) (b + 1)))) ∧ (m = 20 → Q false pCc pBc pSc))))))
def v_PA_load_18 (pC : Nat) (pB : Nat → Int32) (pS : Nat → Nat) (sT : Nat → Int32) (n : Nat) (K18 : Nat → Nat → Nat → (Nat → Int32) → (Nat → Nat) → Prop) (Q : Bool → Nat → (Nat → Int32) → (Nat → Nat) → Prop) (m : Nat) (b : Nat) (pCc : Nat) (pBc : Nat → Int32) (pSc : Nat → Nat) : Prop := (b < 2147483648) ∧ ((n < 2147483648) ∧ ((n < b → Q true m pBc pSc) ∧ (¬ n < b → (b < 2147483648) ∧ ((n < 2147483648) ∧ ((n ≤ b → v_PA_load_64 pC pB pS sT n K18 Q m b pCc pBc pSc) ∧ (¬ n ≤ b → (b < 1000) ∧ (((sT b) = 47 → v_PA_load_64 pC pB pS sT n K18 Q m b pCc pBc pSc) ∧ (¬ (sT b) = 47 → (b < 1000) ∧ ((¬ (sT b) = 10 → (b < 1000) ∧ ((b < 120) ∧ ((vp_nar .char (sT b) = (sT b)) ∧ (K18 m (b + 1) pCc (upd pBc b (sT b)) pSc)))) ∧ ((sT b) = 10 → Q false pCc pBc pSc))))))))))
def v_PA_load (pC : Nat) (pB : Nat → Int32) (pS : Nat → Nat) (sT : Nat → Int32) (n : Nat) (K18 : Nat → Nat → Nat → (Nat → Int32) → (Nat → Nat) → Prop) (Q : Bool → Nat → (Nat → Int32) → (Nat → Nat) → Prop) : Prop := (n < 2147483648) ∧ ((n ≤ 120 → K18 0 0 0 pB pS) ∧ (¬ n ≤ 120 → Q false 0 pB pS))
theorem t_PA_load (pC : Nat) (pB : Nat → Int32) (pS : Nat → Nat) (sT : Nat → Int32) (n : Nat) (hr : r_PA_load pC pB pS sT n) (K18 : Nat → Nat → Nat → (Nat → Int32) → (Nat → Nat) → Prop) (k18 : ∀ m b pCc pBc pSc, v_PA_load_18 pC pB pS sT n K18 (p_PA_load pC pB pS sT n) m b pCc pBc pSc → K18 m b pCc pBc pSc) : v_PA_load pC pB pS sT n K18 (p_PA_load pC pB pS sT n) := by
  obtain ⟨h1, h2, h3⟩ := hr
  have pk0 : sp_pk sT 0 0 0 = false := by
    rw [sp_pk, dif_neg (by decide)]
    rfl
  have bad : ∀ pBc pSc, pSc 0 = 0 → (sp_pk sT n 0 0 = false ∨ ¬ 1 + sp_cnt sT n 0 ≤ 20 ∨ ¬ n ≤ 120) → p_PA_load pC pB pS sT n false 0 pBc pSc := by
    intro pBc pSc h0 hb
    refine ⟨?_, h0, fun _ => rfl, fun q => by cases q⟩
    rw [sp_pok]
    rcases hb with hb | hb | hb
    · rw [hb]; simp
    · rw [decide_eq_false hb]; simp
    · rw [decide_eq_false (fun q => hb q.2)]; simp
  have key : n ≤ 120 → ∀ d m b pBc pSc, n + 1 - b ≤ d → m ≤ 20 → pSc 0 = 0 → (∀ j, j < m → pSc j < sp_eon sT n (pSc j) ∧ pSc (j + 1) = sp_eon sT n (pSc j) + 1) → (∀ k, k < b → k < n → ¬ sT k = 47 → pBc k = sT k) → ((b ≤ n ∧ pSc m ≤ b ∧ sp_eon sT n b = sp_eon sT n (pSc m) ∧ sp_pk sT n 0 0 = sp_pk sT n b (b - pSc m) ∧ m + sp_cnt sT n b = sp_cnt sT n 0) ∨ (b = n + 1 ∧ pSc m = n + 1 ∧ m = 1 + sp_cnt sT n 0 ∧ sp_pk sT n 0 0 = true)) → K18 m b 0 pBc pSc := by
    intro h120 d
    have fin : ∀ m b pBc pSc, m ≤ 20 → pSc 0 = 0 → (∀ j, j < m → pSc j < sp_eon sT n (pSc j) ∧ pSc (j + 1) = sp_eon sT n (pSc j) + 1) → (∀ k, k < b → k < n → ¬ sT k = 47 → pBc k = sT k) → b = n + 1 → pSc m = n + 1 → m = 1 + sp_cnt sT n 0 → sp_pk sT n 0 0 = true → p_PA_load pC pB pS sT n true m pBc pSc := by
      intro m b pBc pSc hm h0 hs hbytes e1 e2 e3 e4
      have hn1 : 1 ≤ n := by
        by_cases hn : n = 0
        · rw [hn, pk0] at e4; cases e4
        · omega
      refine ⟨?_, h0, fun q => (by cases q), fun _ => ⟨e3, h0, hs, e2, by omega, hm, h120, fun k hk h47 => hbytes k (by omega) hk h47⟩⟩
      rw [sp_pok, e4, decide_eq_true ⟨hn1, h120⟩, decide_eq_true (by omega)]
      rfl
    induction d with
    | zero =>
      intro m b pBc pSc hd hm h0 hs hbytes hI
      rcases hI with ⟨q1, -⟩ | ⟨q1, q2, q3, q4⟩
      · omega
      · refine k18 m b 0 pBc pSc ?_
        unfold v_PA_load_18
        exact ⟨by omega, by omega, fun _ => fin m b pBc pSc hm h0 hs hbytes q1 q2 q3 q4, fun h => by omega⟩
    | succ d ih =>
      intro m b pBc pSc hd hm h0 hs hbytes hI
      rcases hI with ⟨q1, q2, q3, q4, q5⟩ | ⟨q1, q2, q3, q4⟩
      · have at' : (b = n ∨ sT b = 47) → v_PA_load_64 pC pB pS sT n K18 (p_PA_load pC pB pS sT n) m b 0 pBc pSc := by
          intro hb
          have e1 : sp_eon sT n (pSc m) = b := by rw [← q3]; exact sp_eon_at hb
          unfold v_PA_load_64
          refine ⟨by omega, by omega, by omega, fun h => bad _ _ h0 (Or.inl ?_), fun h => ⟨by omega, fun h20 => ⟨by omega, ?_⟩, fun h20 => bad _ _ h0 (Or.inr (Or.inl (by omega)))⟩⟩
          · rw [q4, show b - pSc m = 0 by omega, sp_pk]
            by_cases hbn : b < n
            · rw [dif_pos hbn, if_pos (Or.inr ⟨hb.resolve_left (by omega), rfl⟩)]
            · rw [dif_neg hbn]
              rfl
          · have hs' : ∀ j, j < m + 1 → updN pSc (m + 1) (b + 1) j < sp_eon sT n (updN pSc (m + 1) (b + 1) j) ∧ updN pSc (m + 1) (b + 1) (j + 1) = sp_eon sT n (updN pSc (m + 1) (b + 1) j) + 1 := by
              intro j hj
              rw [updN_n (by omega : j ≠ m + 1)]
              by_cases hjm : j = m
              · subst hjm
                rw [updN_s, e1]
                exact ⟨by omega, rfl⟩
              · rw [updN_n (by omega)]
                exact hs j (by omega)
            refine ih (m + 1) (b + 1) _ _ (by omega) (by omega) (by rw [updN_n (by omega)]; exact h0) hs' (fun k hk hkn h47 => ?_) ?_
            · by_cases hkb : k = b
              · subst hkb
                exact absurd (hb.resolve_left (by omega)) h47
              · exact hbytes k (by omega) hkn h47
            · rw [updN_s]
              by_cases hbn : b < n
              · have h47 := hb.resolve_left (by omega)
                refine Or.inl ⟨by omega, Nat.le_refl _, rfl, ?_, ?_⟩
                · rw [q4, sp_pk.eq_1 sT n b, dif_pos hbn, if_neg, if_pos h47, Nat.sub_self]
                  rintro (q | ⟨-, q⟩)
                  · rw [h47] at q; exact absurd q (by decide)
                  · omega
                · rw [sp_cnt_at hbn h47] at q5
                  omega
              · refine Or.inr ⟨by omega, by omega, ?_, ?_⟩
                · rw [sp_cnt_e (by omega)] at q5
                  omega
                · rw [q4, sp_pk, dif_neg hbn, decide_eq_true_eq]
                  omega
        refine k18 m b 0 pBc pSc ?_
        unfold v_PA_load_18
        refine ⟨by omega, by omega, fun h => by omega, fun _ => ⟨by omega, by omega, fun h => at' (Or.inl (by omega)), fun h => ⟨by omega, fun h47 => at' (Or.inr h47), fun h47 => ⟨by omega, fun h10 => ⟨by omega, by omega, h3 b (by omega), ?_⟩, fun h10 => bad _ _ h0 (Or.inl ?_)⟩⟩⟩⟩
        · refine ih m (b + 1) _ _ (by omega) hm h0 hs (fun k hk hkn hk47 => ?_) (Or.inl ⟨by omega, by omega, by rw [← sp_eon_no (by omega) h47]; exact q3, ?_, by rw [← sp_cnt_no (by omega) h47]; exact q5⟩)
          · by_cases hkb : k = b
            · rw [hkb]; exact pk_us
            · rw [pk_un hkb]; exact hbytes k (by omega) hkn hk47
          · rw [q4, sp_pk.eq_1 sT n b, dif_pos (by omega), if_neg, if_neg h47, show b - pSc m + 1 = b + 1 - pSc m by omega]
            rintro (q | ⟨q, -⟩)
            · exact h10 q
            · exact h47 q
        · rw [q4, sp_pk, dif_pos (by omega), if_pos (Or.inl h10)]
      · refine k18 m b 0 pBc pSc ?_
        unfold v_PA_load_18
        exact ⟨by omega, by omega, fun _ => fin m b pBc pSc hm h0 hs hbytes q1 q2 q3 q4, fun h => by omega⟩
  unfold v_PA_load
  refine ⟨by omega, fun h => ?_, fun h => bad _ _ h2 (Or.inr (Or.inr h))⟩
  refine key h (n + 1) 0 0 pB pS (by omega) (by omega) h2 (fun j hj => absurd hj (Nat.not_lt_zero _)) (fun k hk => absurd hk (Nat.not_lt_zero _)) (Or.inl ⟨Nat.zero_le _, by omega, by rw [h2], by rw [h2], by omega⟩)
end
section
theorem kw_0_34 : Cond.fieldLink "IgnoreRules$RuleList" 22 "IgnoreRules$RuleList" "bits" "[I" ∈ ig_T := ig_T_mem (List.mem_append_left _ (List.mem_of_getElem? (i := 34) rfl)) rfl
theorem kw_0_37 : Cond.fieldLink "IgnoreRules$RuleList" 25 "IgnoreRules$RuleList" "lines" "[I" ∈ ig_T := ig_T_mem (List.mem_append_left _ (List.mem_of_getElem? (i := 37) rfl)) rfl
theorem kw_0_39 : Cond.fieldLink "IgnoreRules$RuleList" 28 "IgnoreRules$RuleList" "count" "I" ∈ ig_T := ig_T_mem (List.mem_append_left _ (List.mem_of_getElem? (i := 39) rfl)) rfl
theorem kw_0_62 : Cond.fieldLink "IgnoreRules$Path" 9 "IgnoreRules$Path" "bytes" "[C" ∈ ig_T := ig_T_mem (List.mem_append_left _ (List.mem_of_getElem? (i := 62) rfl)) rfl
theorem kw_0_66 : Cond.fieldLink "IgnoreRules$Path" 19 "IgnoreRules$Path" "count" "I" ∈ ig_T := ig_T_mem (List.mem_append_left _ (List.mem_of_getElem? (i := 66) rfl)) rfl
theorem kw_0_120 : Cond.methodLink "IgnoreRules$RuleList" 32 y_RL_withoutBlanks ∈ ig_T := ig_T_mem (List.mem_append_left _ (List.mem_of_getElem? (i := 120) rfl)) rfl
theorem kw_0_122 : Cond.instanceMethod y_RL_withoutBlanks ∈ ig_T := ig_T_mem (List.mem_append_left _ (List.mem_of_getElem? (i := 122) rfl)) rfl
theorem kw_0_128 : Cond.methodLink "IgnoreRules$RuleList" 36 y_RL_add ∈ ig_T := ig_T_mem (List.mem_append_left _ (List.mem_of_getElem? (i := 128) rfl)) rfl
theorem kw_0_130 : Cond.instanceMethod y_RL_add ∈ ig_T := ig_T_mem (List.mem_append_left _ (List.mem_of_getElem? (i := 130) rfl)) rfl
theorem kw_0_136 : Cond.methodLink "IgnoreRules$RuleList" 47 y_RL_hasVoidName ∈ ig_T := ig_T_mem (List.mem_append_left _ (List.mem_of_getElem? (i := 136) rfl)) rfl
theorem kw_0_138 : Cond.instanceMethod y_RL_hasVoidName ∈ ig_T := ig_T_mem (List.mem_append_left _ (List.mem_of_getElem? (i := 138) rfl)) rfl
theorem d_RL_add_0 : decode b_RL_add 0 = .ok (.iload_n 1, 1) := by decide +kernel
theorem d_RL_add_1 : decode b_RL_add 1 = .ok (.istore 4, 2) := by decide +kernel
theorem d_RL_add_3 : decode b_RL_add 3 = .ok (.iload_n 2, 1) := by decide +kernel
theorem d_RL_add_4 : decode b_RL_add 4 = .ok (.istore 5, 2) := by decide +kernel
theorem d_RL_add_6 : decode b_RL_add 6 = .ok (.iconst 0, 1) := by decide +kernel
theorem d_RL_add_7 : decode b_RL_add 7 = .ok (.istore 6, 2) := by decide +kernel
theorem d_RL_add_9 : decode b_RL_add 9 = .ok (.aload_n 0, 1) := by decide +kernel
theorem d_RL_add_10 : decode b_RL_add 10 = .ok (.getfield 9, 3) := by decide +kernel
theorem d_RL_add_13 : decode b_RL_add 13 = .ok (.iload 4, 2) := by decide +kernel
theorem d_RL_add_15 : decode b_RL_add 15 = .ok (.caload, 1) := by decide +kernel
theorem d_RL_add_16 : decode b_RL_add 16 = .ok (.bipush 33, 2) := by decide +kernel
theorem d_RL_add_18 : decode b_RL_add 18 = .ok (.if_icmp .ne 12, 3) := by decide +kernel
theorem d_RL_add_21 : decode b_RL_add 21 = .ok (.iload 6, 2) := by decide +kernel
theorem d_RL_add_23 : decode b_RL_add 23 = .ok (.iconst 1, 1) := by decide +kernel
theorem d_RL_add_24 : decode b_RL_add 24 = .ok (.ior, 1) := by decide +kernel
theorem d_RL_add_25 : decode b_RL_add 25 = .ok (.istore 6, 2) := by decide +kernel
theorem d_RL_add_27 : decode b_RL_add 27 = .ok (.iinc 4 1, 3) := by decide +kernel
theorem d_RL_add_30 : decode b_RL_add 30 = .ok (.iload 4, 2) := by decide +kernel
theorem d_RL_add_32 : decode b_RL_add 32 = .ok (.iload 5, 2) := by decide +kernel
theorem d_RL_add_34 : decode b_RL_add 34 = .ok (.if_icmp .ge 39, 3) := by decide +kernel
theorem d_RL_add_37 : decode b_RL_add 37 = .ok (.aload_n 0, 1) := by decide +kernel
theorem d_RL_add_38 : decode b_RL_add 38 = .ok (.getfield 9, 3) := by decide +kernel
theorem d_RL_add_41 : decode b_RL_add 41 = .ok (.iload 5, 2) := by decide +kernel
theorem d_RL_add_43 : decode b_RL_add 43 = .ok (.iconst 1, 1) := by decide +kernel
theorem d_RL_add_44 : decode b_RL_add 44 = .ok (.isub, 1) := by decide +kernel
theorem d_RL_add_45 : decode b_RL_add 45 = .ok (.caload, 1) := by decide +kernel
theorem d_RL_add_46 : decode b_RL_add 46 = .ok (.bipush 47, 2) := by decide +kernel
theorem d_RL_add_48 : decode b_RL_add 48 = .ok (.if_icmp .ne 25, 3) := by decide +kernel
theorem d_RL_add_51 : decode b_RL_add 51 = .ok (.aload_n 0, 1) := by decide +kernel
theorem d_RL_add_52 : decode b_RL_add 52 = .ok (.iload 4, 2) := by decide +kernel
theorem d_RL_add_54 : decode b_RL_add 54 = .ok (.iload 5, 2) := by decide +kernel
theorem d_RL_add_56 : decode b_RL_add 56 = .ok (.iconst 1, 1) := by decide +kernel
theorem d_RL_add_57 : decode b_RL_add 57 = .ok (.isub, 1) := by decide +kernel
theorem d_RL_add_58 : decode b_RL_add 58 = .ok (.invokevirtual 40, 3) := by decide +kernel
theorem d_RL_add_61 : decode b_RL_add 61 = .ok (.ifCond .ne 12, 3) := by decide +kernel
theorem d_RL_add_64 : decode b_RL_add 64 = .ok (.iload 6, 2) := by decide +kernel
theorem d_RL_add_66 : decode b_RL_add 66 = .ok (.iconst 2, 1) := by decide +kernel
theorem d_RL_add_67 : decode b_RL_add 67 = .ok (.ior, 1) := by decide +kernel
theorem d_RL_add_68 : decode b_RL_add 68 = .ok (.istore 6, 2) := by decide +kernel
theorem d_RL_add_70 : decode b_RL_add 70 = .ok (.iinc 5 (-1), 3) := by decide +kernel
theorem d_RL_add_73 : decode b_RL_add 73 = .ok (.aload_n 0, 1) := by decide +kernel
theorem d_RL_add_74 : decode b_RL_add 74 = .ok (.iload 4, 2) := by decide +kernel
theorem d_RL_add_76 : decode b_RL_add 76 = .ok (.iload 5, 2) := by decide +kernel
theorem d_RL_add_78 : decode b_RL_add 78 = .ok (.invokevirtual 44, 3) := by decide +kernel
theorem d_RL_add_81 : decode b_RL_add 81 = .ok (.iload 5, 2) := by decide +kernel
theorem d_RL_add_83 : decode b_RL_add 83 = .ok (.if_icmp .ge 24, 3) := by decide +kernel
theorem d_RL_add_86 : decode b_RL_add 86 = .ok (.iload 6, 2) := by decide +kernel
theorem d_RL_add_88 : decode b_RL_add 88 = .ok (.iconst 4, 1) := by decide +kernel
theorem d_RL_add_89 : decode b_RL_add 89 = .ok (.ior, 1) := by decide +kernel
theorem d_RL_add_90 : decode b_RL_add 90 = .ok (.istore 6, 2) := by decide +kernel
theorem d_RL_add_92 : decode b_RL_add 92 = .ok (.aload_n 0, 1) := by decide +kernel
theorem d_RL_add_93 : decode b_RL_add 93 = .ok (.getfield 9, 3) := by decide +kernel
theorem d_RL_add_96 : decode b_RL_add 96 = .ok (.iload 4, 2) := by decide +kernel
theorem d_RL_add_98 : decode b_RL_add 98 = .ok (.caload, 1) := by decide +kernel
theorem d_RL_add_99 : decode b_RL_add 99 = .ok (.bipush 47, 2) := by decide +kernel
theorem d_RL_add_101 : decode b_RL_add 101 = .ok (.if_icmp .ne 6, 3) := by decide +kernel
theorem d_RL_add_104 : decode b_RL_add 104 = .ok (.iinc 4 1, 3) := by decide +kernel
theorem d_RL_add_107 : decode b_RL_add 107 = .ok (.aload_n 0, 1) := by decide +kernel
theorem d_RL_add_108 : decode b_RL_add 108 = .ok (.iload 4, 2) := by decide +kernel
theorem d_RL_add_110 : decode b_RL_add 110 = .ok (.iload 5, 2) := by decide +kernel
theorem d_RL_add_112 : decode b_RL_add 112 = .ok (.invokevirtual 47, 3) := by decide +kernel
theorem d_RL_add_115 : decode b_RL_add 115 = .ok (.ifCond .eq 10, 3) := by decide +kernel
theorem d_RL_add_118 : decode b_RL_add 118 = .ok (.iload 6, 2) := by decide +kernel
theorem d_RL_add_120 : decode b_RL_add 120 = .ok (.bipush 8, 2) := by decide +kernel
theorem d_RL_add_122 : decode b_RL_add 122 = .ok (.ior, 1) := by decide +kernel
theorem d_RL_add_123 : decode b_RL_add 123 = .ok (.istore 6, 2) := by decide +kernel
theorem d_RL_add_125 : decode b_RL_add 125 = .ok (.aload_n 0, 1) := by decide +kernel
theorem d_RL_add_126 : decode b_RL_add 126 = .ok (.getfield 15, 3) := by decide +kernel
theorem d_RL_add_129 : decode b_RL_add 129 = .ok (.aload_n 0, 1) := by decide +kernel
theorem d_RL_add_130 : decode b_RL_add 130 = .ok (.getfield 28, 3) := by decide +kernel
theorem d_RL_add_133 : decode b_RL_add 133 = .ok (.iload 4, 2) := by decide +kernel
theorem d_RL_add_135 : decode b_RL_add 135 = .ok (.iastore, 1) := by decide +kernel
theorem d_RL_add_136 : decode b_RL_add 136 = .ok (.aload_n 0, 1) := by decide +kernel
theorem d_RL_add_137 : decode b_RL_add 137 = .ok (.getfield 19, 3) := by decide +kernel
theorem d_RL_add_140 : decode b_RL_add 140 = .ok (.aload_n 0, 1) := by decide +kernel
theorem d_RL_add_141 : decode b_RL_add 141 = .ok (.getfield 28, 3) := by decide +kernel
theorem d_RL_add_144 : decode b_RL_add 144 = .ok (.iload 5, 2) := by decide +kernel
theorem d_RL_add_146 : decode b_RL_add 146 = .ok (.iastore, 1) := by decide +kernel
theorem d_RL_add_147 : decode b_RL_add 147 = .ok (.aload_n 0, 1) := by decide +kernel
theorem d_RL_add_148 : decode b_RL_add 148 = .ok (.getfield 22, 3) := by decide +kernel
theorem d_RL_add_151 : decode b_RL_add 151 = .ok (.aload_n 0, 1) := by decide +kernel
theorem d_RL_add_152 : decode b_RL_add 152 = .ok (.getfield 28, 3) := by decide +kernel
theorem d_RL_add_155 : decode b_RL_add 155 = .ok (.iload 6, 2) := by decide +kernel
theorem d_RL_add_157 : decode b_RL_add 157 = .ok (.iastore, 1) := by decide +kernel
theorem d_RL_add_158 : decode b_RL_add 158 = .ok (.aload_n 0, 1) := by decide +kernel
theorem d_RL_add_159 : decode b_RL_add 159 = .ok (.getfield 25, 3) := by decide +kernel
theorem d_RL_add_162 : decode b_RL_add 162 = .ok (.aload_n 0, 1) := by decide +kernel
theorem d_RL_add_163 : decode b_RL_add 163 = .ok (.getfield 28, 3) := by decide +kernel
theorem d_RL_add_166 : decode b_RL_add 166 = .ok (.iload_n 3, 1) := by decide +kernel
theorem d_RL_add_167 : decode b_RL_add 167 = .ok (.iastore, 1) := by decide +kernel
theorem d_RL_add_168 : decode b_RL_add 168 = .ok (.aload_n 0, 1) := by decide +kernel
theorem d_RL_add_169 : decode b_RL_add 169 = .ok (.dup, 1) := by decide +kernel
theorem d_RL_add_170 : decode b_RL_add 170 = .ok (.getfield 28, 3) := by decide +kernel
theorem d_RL_add_173 : decode b_RL_add 173 = .ok (.iconst 1, 1) := by decide +kernel
theorem d_RL_add_174 : decode b_RL_add 174 = .ok (.iadd, 1) := by decide +kernel
theorem d_RL_add_175 : decode b_RL_add 175 = .ok (.putfield 28, 3) := by decide +kernel
theorem d_RL_add_178 : decode b_RL_add 178 = .ok (.return_, 1) := by decide +kernel
abbrev w_RL_add : List Cond := Cond.code y_RL_add b_RL_add 7 none :: ig_T
theorem g_RL_add : GoodIn ig_T w_RL_add := ig_T_good (ig_T_mem (List.mem_append_left _ (List.mem_of_getElem? (i := 131) rfl)) rfl)
set_option maxHeartbeats 4000000 in
set_option maxRecDepth 100000 in
theorem c_RL_add (l : Launch) (dC : Nat → ClassId) (dI : Nat → Nat → Nat) (cC cI cZ cL : ClassId) (q0 qt qs qe qb ql : Nat)  (tT : Nat → Int32) (aS : Nat → Nat) (aE : Nat → Nat) (aB : Nat → Nat) (aL : Nat → Nat) (nC : Nat) (f : Nat) (a : Nat) (no : Nat) (sz : Nat) (hr : r_RL_add tT aS aE aB aL nC f a no) : Met l y_RL_add w_RL_add ({ frames := 3, cells := 0, slots := 0, locals := 73 }) (ig_Pc (dC, dI) ig_cl0 [(cC, .char), (cI, .int), (cZ, .boolean), (cL, .long)] [.ref q0, .int (nI f), .int (nI a), .int (nI no)] [(q0, .inr (ciRL, [.ref qt, .ref qs, .ref qe, .ref qb, .ref ql, .int (nI nC)])), (qt, .inl (cC, 1000, .inl tT)), (qs, .inl (cI, 60, .inl (fun j => nI (aS j)))), (qe, .inl (cI, 60, .inl (fun j => nI (aE j)))), (qb, .inl (cI, 60, .inl (fun j => nI (aB j)))), (ql, .inl (cI, 60, .inl (fun j => nI (aL j))))] sz) (va_Qv (fun (u : (Nat → Nat) × (Nat → Nat) × (Nat → Nat) × (Nat → Nat) × Nat) => p_RL_add tT aS aE aB aL nC f a no u.1 u.2.1 u.2.2.1 u.2.2.2.1 u.2.2.2.2) (fun u t => va_P (dC, dI) ig_cl0 ((fun (u : (Nat → Nat) × (Nat → Nat) × (Nat → Nat) × (Nat → Nat) × Nat) => [(q0, .inr (ciRL, [.ref qt, .ref qs, .ref qe, .ref qb, .ref ql, .int (nI u.2.2.2.2)])), (qt, .inl (cC, 1000, .inl tT)), (qs, .inl (cI, 60, .inl (fun j => nI (u.1 j)))), (qe, .inl (cI, 60, .inl (fun j => nI (u.2.1 j)))), (qb, .inl (cI, 60, .inl (fun j => nI (u.2.2.1 j)))), (ql, .inl (cI, 60, .inl (fun j => nI (u.2.2.2.1 j))))]) u) t.heap ∧ va_D (va_A [(q0, .inr (ciRL, [.ref qt, .ref qs, .ref qe, .ref qb, .ref ql, .int (nI nC)])), (qt, .inl (cC, 1000, .inl tT)), (qs, .inl (cI, 60, .inl (fun j => nI (aS j)))), (qe, .inl (cI, 60, .inl (fun j => nI (aE j)))), (qb, .inl (cI, 60, .inl (fun j => nI (aB j)))), (ql, .inl (cI, 60, .inl (fun j => nI (aL j))))] sz) ((fun (u : (Nat → Nat) × (Nat → Nat) × (Nat → Nat) × (Nat → Nat) × Nat) => [(q0, .inr (ciRL, [.ref qt, .ref qs, .ref qe, .ref qb, .ref ql, .int (nI u.2.2.2.2)])), (qt, .inl (cC, 1000, .inl tT)), (qs, .inl (cI, 60, .inl (fun j => nI (u.1 j)))), (qe, .inl (cI, 60, .inl (fun j => nI (u.2.1 j)))), (qb, .inl (cI, 60, .inl (fun j => nI (u.2.2.1 j)))), (ql, .inl (cI, 60, .inl (fun j => nI (u.2.2.2.1 j))))]) u)) (va_A [(q0, .inr (ciRL, [.ref qt, .ref qs, .ref qe, .ref qb, .ref ql, .int (nI nC)])), (qt, .inl (cC, 1000, .inl tT)), (qs, .inl (cI, 60, .inl (fun j => nI (aS j)))), (qe, .inl (cI, 60, .inl (fun j => nI (aE j)))), (qb, .inl (cI, 60, .inl (fun j => nI (aB j)))), (ql, .inl (cI, 60, .inl (fun j => nI (aL j))))] sz)) 0 0 (va_A [(q0, .inr (ciRL, [.ref qt, .ref qs, .ref qe, .ref qb, .ref ql, .int (nI nC)])), (qt, .inl (cC, 1000, .inl tT)), (qs, .inl (cI, 60, .inl (fun j => nI (aS j)))), (qe, .inl (cI, 60, .inl (fun j => nI (aE j)))), (qb, .inl (cI, 60, .inl (fun j => nI (aB j)))), (ql, .inl (cI, 60, .inl (fun j => nI (aL j))))] sz) := by
  refine ig_metV (fun (u : (Nat → Nat) × (Nat → Nat) × (Nat → Nat) × (Nat → Nat) × Nat) => p_RL_add tT aS aE aB aL nC f a no u.1 u.2.1 u.2.2.1 u.2.2.2.1 u.2.2.2.2) (fun (u : (Nat → Nat) × (Nat → Nat) × (Nat → Nat) × (Nat → Nat) × Nat) => [(q0, .inr (ciRL, [.ref qt, .ref qs, .ref qe, .ref qb, .ref ql, .int (nI u.2.2.2.2)])), (qt, .inl (cC, 1000, .inl tT)), (qs, .inl (cI, 60, .inl (fun j => nI (u.1 j)))), (qe, .inl (cI, 60, .inl (fun j => nI (u.2.1 j)))), (qb, .inl (cI, 60, .inl (fun j => nI (u.2.2.1 j)))), (ql, .inl (cI, 60, .inl (fun j => nI (u.2.2.2.1 j))))]) (by decide) rfl (Nat.le_of_ble_eq_true rfl) rfl ?_
  intro zp ze zs zm zargs zbelow zmeth zc zA zQ hx hb hml hown hts hK hN hA hret
  have j125 : ∀ (g : Nat) (b : Nat) (x : Nat) (nCc : Nat) (aSc : Nat → Nat) (aEc : Nat → Nat) (aBc : Nat → Nat) (aLc : Nat → Nat), v_RL_add_125 tT aS aE aB aL nC f a no (p_RL_add tT aS aE aB aL nC f a no) g b x nCc aSc aEc aBc aLc → ig_W zp l ze ({ frames := 3, cells := 0, slots := 0, locals := 73 }) zs zm zargs zbelow zmeth zc (dC, dI) ig_cl0 zA zs.heap 7 0 0 zQ 125 [(0, .ref q0), (3, .int (nI no)), (4, .int (nI g)), (5, .int (nI b)), (6, .int (nI x))] [] [(q0, .inr (ciRL, [.ref qt, .ref qs, .ref qe, .ref qb, .ref ql, .int (nI nCc)])), (qt, .inl (cC, 1000, .inl tT)), (qs, .inl (cI, 60, .inl (fun j => nI (aSc j)))), (qe, .inl (cI, 60, .inl (fun j => nI (aEc j)))), (qb, .inl (cI, 60, .inl (fun j => nI (aBc j)))), (ql, .inl (cI, 60, .inl (fun j => nI (aLc j))))] := by
    intro g b x nCc aSc aEc aBc aLc hv
    unfold v_RL_add_125 at hv
    refine ig_aload_n hx hb 0 d_RL_add_125 rfl rfl ?_
    refine ig_get hx hb hts in_RL hown hK 0 rfl rfl 1 (by decide) (hts _ kw_0_30) (fun _ h => h) rfl d_RL_add_126 ?_
    refine ig_aload_n hx hb 0 d_RL_add_129 rfl rfl ?_
    refine ig_get hx hb hts in_RL hown hK 0 rfl rfl 5 (by decide) (hts _ kw_0_39) (fun _ h => h) rfl d_RL_add_130 ?_
    refine ig_iload hx hb 2 d_RL_add_133 rfl ?_
    obtain ⟨hc, hv⟩ := hv
    refine ig_iast (f' := fun j => nI ((updN aSc nCc g) j)) (ws' := [(q0, .inr (ciRL, [.ref qt, .ref qs, .ref qe, .ref qb, .ref ql, .int (nI nCc)])), (qt, .inl (cC, 1000, .inl tT)), (qs, .inl (cI, 60, .inl (fun j => nI ((updN aSc nCc g) j)))), (qe, .inl (cI, 60, .inl (fun j => nI (aEc j)))), (qb, .inl (cI, 60, .inl (fun j => nI (aBc j)))), (ql, .inl (cI, 60, .inl (fun j => nI (aLc j))))]) hx hb hK 2 1 rfl rfl nCc rfl hc (by decide) (upd_N aSc nCc g) d_RL_add_135 rfl ?_
    refine ig_aload_n hx hb 0 d_RL_add_136 rfl rfl ?_
    refine ig_get hx hb hts in_RL hown hK 0 rfl rfl 2 (by decide) (hts _ kw_0_32) (fun _ h => h) rfl d_RL_add_137 ?_
    refine ig_aload_n hx hb 0 d_RL_add_140 rfl rfl ?_
    refine ig_get hx hb hts in_RL hown hK 0 rfl rfl 5 (by decide) (hts _ kw_0_39) (fun _ h => h) rfl d_RL_add_141 ?_
    refine ig_iload hx hb 3 d_RL_add_144 rfl ?_
    obtain ⟨hc, hv⟩ := hv
    refine ig_iast (f' := fun j => nI ((updN aEc nCc b) j)) (ws' := [(q0, .inr (ciRL, [.ref qt, .ref qs, .ref qe, .ref qb, .ref ql, .int (nI nCc)])), (qt, .inl (cC, 1000, .inl tT)), (qs, .inl (cI, 60, .inl (fun j => nI ((updN aSc nCc g) j)))), (qe, .inl (cI, 60, .inl (fun j => nI ((updN aEc nCc b) j)))), (qb, .inl (cI, 60, .inl (fun j => nI (aBc j)))), (ql, .inl (cI, 60, .inl (fun j => nI (aLc j))))]) hx hb hK 3 1 rfl rfl nCc rfl hc (by decide) (upd_N aEc nCc b) d_RL_add_146 rfl ?_
    refine ig_aload_n hx hb 0 d_RL_add_147 rfl rfl ?_
    refine ig_get hx hb hts in_RL hown hK 0 rfl rfl 3 (by decide) (hts _ kw_0_34) (fun _ h => h) rfl d_RL_add_148 ?_
    refine ig_aload_n hx hb 0 d_RL_add_151 rfl rfl ?_
    refine ig_get hx hb hts in_RL hown hK 0 rfl rfl 5 (by decide) (hts _ kw_0_39) (fun _ h => h) rfl d_RL_add_152 ?_
    refine ig_iload hx hb 4 d_RL_add_155 rfl ?_
    obtain ⟨hc, hv⟩ := hv
    refine ig_iast (f' := fun j => nI ((updN aBc nCc x) j)) (ws' := [(q0, .inr (ciRL, [.ref qt, .ref qs, .ref qe, .ref qb, .ref ql, .int (nI nCc)])), (qt, .inl (cC, 1000, .inl tT)), (qs, .inl (cI, 60, .inl (fun j => nI ((updN aSc nCc g) j)))), (qe, .inl (cI, 60, .inl (fun j => nI ((updN aEc nCc b) j)))), (qb, .inl (cI, 60, .inl (fun j => nI ((updN aBc nCc x) j)))), (ql, .inl (cI, 60, .inl (fun j => nI (aLc j))))]) hx hb hK 4 1 rfl rfl nCc rfl hc (by decide) (upd_N aBc nCc x) d_RL_add_157 rfl ?_
    refine ig_aload_n hx hb 0 d_RL_add_158 rfl rfl ?_
    refine ig_get hx hb hts in_RL hown hK 0 rfl rfl 4 (by decide) (hts _ kw_0_37) (fun _ h => h) rfl d_RL_add_159 ?_
    refine ig_aload_n hx hb 0 d_RL_add_162 rfl rfl ?_
    refine ig_get hx hb hts in_RL hown hK 0 rfl rfl 5 (by decide) (hts _ kw_0_39) (fun _ h => h) rfl d_RL_add_163 ?_
    refine ig_iload_n hx hb 1 d_RL_add_166 rfl rfl ?_
    obtain ⟨hc, hv⟩ := hv
    refine ig_iast (f' := fun j => nI ((updN aLc nCc no) j)) (ws' := [(q0, .inr (ciRL, [.ref qt, .ref qs, .ref qe, .ref qb, .ref ql, .int (nI nCc)])), (qt, .inl (cC, 1000, .inl tT)), (qs, .inl (cI, 60, .inl (fun j => nI ((updN aSc nCc g) j)))), (qe, .inl (cI, 60, .inl (fun j => nI ((updN aEc nCc b) j)))), (qb, .inl (cI, 60, .inl (fun j => nI ((updN aBc nCc x) j)))), (ql, .inl (cI, 60, .inl (fun j => nI ((updN aLc nCc no) j))))]) hx hb hK 5 1 rfl rfl nCc rfl hc (by decide) (upd_N aLc nCc no) d_RL_add_167 rfl ?_
    refine ig_aload_n hx hb 0 d_RL_add_168 rfl rfl ?_
    refine ig_dup hx hb d_RL_add_169 rfl ?_
    refine ig_get hx hb hts in_RL hown hK 0 rfl rfl 5 (by decide) (hts _ kw_0_39) (fun _ h => h) rfl d_RL_add_170 ?_
    refine ig_iconst (v := 1) hx hb d_RL_add_173 (by decide) ?_
    refine ig_iaddN hx hb nCc 1 rfl rfl d_RL_add_174 ?_
    refine ig_put (ty := .int) (v := .int (nI (nCc + 1))) (ws' := [(q0, .inr (ciRL, [.ref qt, .ref qs, .ref qe, .ref qb, .ref ql, .int (nI (nCc + 1))])), (qt, .inl (cC, 1000, .inl tT)), (qs, .inl (cI, 60, .inl (fun j => nI ((updN aSc nCc g) j)))), (qe, .inl (cI, 60, .inl (fun j => nI ((updN aEc nCc b) j)))), (qb, .inl (cI, 60, .inl (fun j => nI ((updN aBc nCc x) j)))), (ql, .inl (cI, 60, .inl (fun j => nI ((updN aLc nCc no) j))))]) hx hb hts in_RL t_RL t_RL_ok n_RL hown hK 0 rfl rfl 5 (by decide) (hts _ kw_0_39) (fun _ h => h) rfl (by decide +kernel) rfl rfl (Nat.le_of_ble_eq_true rfl) d_RL_add_175 rfl ?_
    exact hret 178 _ (updN aSc nCc g, updN aEc nCc b, updN aBc nCc x, updN aLc nCc no, nCc + 1) d_RL_add_178 hv
  have j107 : ∀ (g : Nat) (b : Nat) (x : Nat) (nCc : Nat) (aSc : Nat → Nat) (aEc : Nat → Nat) (aBc : Nat → Nat) (aLc : Nat → Nat), v_RL_add_107 tT aS aE aB aL nC f a no (p_RL_add tT aS aE aB aL nC f a no) g b x nCc aSc aEc aBc aLc → ig_W zp l ze ({ frames := 3, cells := 0, slots := 0, locals := 73 }) zs zm zargs zbelow zmeth zc (dC, dI) ig_cl0 zA zs.heap 7 0 0 zQ 107 [(0, .ref q0), (3, .int (nI no)), (4, .int (nI g)), (5, .int (nI b)), (6, .int (nI x))] [] [(q0, .inr (ciRL, [.ref qt, .ref qs, .ref qe, .ref qb, .ref ql, .int (nI nCc)])), (qt, .inl (cC, 1000, .inl tT)), (qs, .inl (cI, 60, .inl (fun j => nI (aSc j)))), (qe, .inl (cI, 60, .inl (fun j => nI (aEc j)))), (qb, .inl (cI, 60, .inl (fun j => nI (aBc j)))), (ql, .inl (cI, 60, .inl (fun j => nI (aLc j))))] := by
    intro g b x nCc aSc aEc aBc aLc hv
    unfold v_RL_add_107 at hv
    refine ig_aload_n hx hb 0 d_RL_add_107 rfl rfl ?_
    refine ig_iload hx hb 2 d_RL_add_108 rfl ?_
    refine ig_iload hx hb 3 d_RL_add_110 rfl ?_
    obtain ⟨hc, hv⟩ := hv
    refine ig_cVi (As := [.int (nI g), .int (nI b)]) (rest := []) (wr := [(qs, .inl (cI, 60, .inl (fun j => nI (aSc j)))), (qe, .inl (cI, 60, .inl (fun j => nI (aEc j)))), (qb, .inl (cI, 60, .inl (fun j => nI (aBc j)))), (ql, .inl (cI, 60, .inl (fun j => nI (aLc j))))]) (ws' := fun u => [(q0, .inr (ciRL, [.ref qt, .ref qs, .ref qe, .ref qb, .ref ql, .int (nI nCc)])), (qt, .inl (cC, 1000, .inl tT)), (qs, .inl (cI, 60, .inl (fun j => nI (aSc j)))), (qe, .inl (cI, 60, .inl (fun j => nI (aEc j)))), (qb, .inl (cI, 60, .inl (fun j => nI (aBc j)))), (ql, .inl (cI, 60, .inl (fun j => nI (aLc j))))]) hx hb hml hown hts hK hN hA (fun sz => c_RL_hasVoidName l dC dI cC cI cZ cL q0 qt qs qe qb ql (nI nCc) tT g b sz hc) ⟨callB_of 2 hts g_RL_hasVoidName rfl rfl rfl (hts _ kw_0_2) (hts _ kw_0_136) (by decide +kernel) (by decide), (hts _ kw_0_138), (hts _ ks_RL_hasVoidName)⟩ rfl rfl (Nat.le_of_ble_eq_true rfl) d_RL_add_112 (by decide) 0 rfl rfl [0, 1] [2, 3, 4, 5] [4, 5, 0, 1, 2, 3] rfl rfl (by decide) (by decide) (by decide) (fun _ => rfl) (fun _ => rfl) (fun r u hr => ?_)
    obtain ⟨rr, rfl, hr⟩ := hr
    unfold p_RL_hasVoidName at hr
    subst hr
    refine ig_if_eqB (tgt := 125) hx hb (sp_hv tT b g) rfl d_RL_add_115 (by decide) (fun h => ?_) (fun h => ?_)
    · have hv := hv.1 h
      refine ig_lv (lv' := [(0, .ref q0), (3, .int (nI no)), (4, .int (nI g)), (5, .int (nI b)), (6, .int (nI x))]) [0, 1, 2, 3, 4] rfl ?_
      exact j125 _ _ _ _ _ _ _ _ hv
    · have hv := hv.2 h
      refine ig_iload hx hb 4 d_RL_add_118 rfl ?_
      refine ig_bipush (v := 8) hx hb d_RL_add_120 (by decide) ?_
      refine ig_iorN hx hb x 8 rfl rfl d_RL_add_122 ?_
      refine ig_istore (lv' := [(6, .int (nI (x ||| 8))), (0, .ref q0), (3, .int (nI no)), (4, .int (nI g)), (5, .int (nI b))]) hx hb d_RL_add_123 (by decide) rfl ?_
      refine ig_lv (lv' := [(0, .ref q0), (3, .int (nI no)), (4, .int (nI g)), (5, .int (nI b)), (6, .int (nI (x ||| 8)))]) [1, 2, 3, 4, 0] rfl ?_
      exact j125 _ _ _ _ _ _ _ _ hv
  have j73 : ∀ (g : Nat) (b : Nat) (x : Nat) (nCc : Nat) (aSc : Nat → Nat) (aEc : Nat → Nat) (aBc : Nat → Nat) (aLc : Nat → Nat), v_RL_add_73 tT aS aE aB aL nC f a no (p_RL_add tT aS aE aB aL nC f a no) g b x nCc aSc aEc aBc aLc → ig_W zp l ze ({ frames := 3, cells := 0, slots := 0, locals := 73 }) zs zm zargs zbelow zmeth zc (dC, dI) ig_cl0 zA zs.heap 7 0 0 zQ 73 [(0, .ref q0), (3, .int (nI no)), (4, .int (nI g)), (5, .int (nI b)), (6, .int (nI x))] [] [(q0, .inr (ciRL, [.ref qt, .ref qs, .ref qe, .ref qb, .ref ql, .int (nI nCc)])), (qt, .inl (cC, 1000, .inl tT)), (qs, .inl (cI, 60, .inl (fun j => nI (aSc j)))), (qe, .inl (cI, 60, .inl (fun j => nI (aEc j)))), (qb, .inl (cI, 60, .inl (fun j => nI (aBc j)))), (ql, .inl (cI, 60, .inl (fun j => nI (aLc j))))] := by
    intro g b x nCc aSc aEc aBc aLc hv
    unfold v_RL_add_73 at hv
    refine ig_aload_n hx hb 0 d_RL_add_73 rfl rfl ?_
    refine ig_iload hx hb 2 d_RL_add_74 rfl ?_
    refine ig_iload hx hb 3 d_RL_add_76 rfl ?_
    obtain ⟨hc, hv⟩ := hv
    refine ig_cVi (As := [.int (nI g), .int (nI b)]) (rest := []) (wr := [(qs, .inl (cI, 60, .inl (fun j => nI (aSc j)))), (qe, .inl (cI, 60, .inl (fun j => nI (aEc j)))), (qb, .inl (cI, 60, .inl (fun j => nI (aBc j)))), (ql, .inl (cI, 60, .inl (fun j => nI (aLc j))))]) (ws' := fun u => [(q0, .inr (ciRL, [.ref qt, .ref qs, .ref qe, .ref qb, .ref ql, .int (nI nCc)])), (qt, .inl (cC, 1000, .inl tT)), (qs, .inl (cI, 60, .inl (fun j => nI (aSc j)))), (qe, .inl (cI, 60, .inl (fun j => nI (aEc j)))), (qb, .inl (cI, 60, .inl (fun j => nI (aBc j)))), (ql, .inl (cI, 60, .inl (fun j => nI (aLc j))))]) hx hb hml hown hts hK hN hA (fun sz => c_RL_endOfName l dC dI cC cI cZ cL q0 qt qs qe qb ql (nI nCc) tT g b sz hc) ⟨callB_of 2 hts g_RL_endOfName rfl rfl rfl (hts _ kw_0_2) (hts _ kw_0_132) (by decide +kernel) (by decide), (hts _ kw_0_134), (hts _ ks_RL_endOfName)⟩ rfl rfl (Nat.le_of_ble_eq_true rfl) d_RL_add_78 (by decide) 0 rfl rfl [0, 1] [2, 3, 4, 5] [4, 5, 0, 1, 2, 3] rfl rfl (by decide) (by decide) (by decide) (fun _ => rfl) (fun _ => rfl) (fun r u hr => ?_)
    obtain ⟨rr, rfl, hr⟩ := hr
    unfold p_RL_endOfName at hr
    subst hr
    refine ig_iload hx hb 3 d_RL_add_81 rfl ?_
    obtain ⟨h1, hv⟩ := hv
    obtain ⟨h2, hv⟩ := hv
    refine ig_icmp_geN (tgt := 107) hx hb (sp_eon tT b g) b rfl rfl d_RL_add_83 (by decide) h1 h2 (fun h => ?_) (fun h => ?_)
    · have hv := hv.1 h
      refine ig_lv (lv' := [(0, .ref q0), (3, .int (nI no)), (4, .int (nI g)), (5, .int (nI b)), (6, .int (nI x))]) [0, 1, 2, 3, 4] rfl ?_
      exact j107 _ _ _ _ _ _ _ _ hv
    · have hv := hv.2 h
      refine ig_iload hx hb 4 d_RL_add_86 rfl ?_
      refine ig_iconst (v := 4) hx hb d_RL_add_88 (by decide) ?_
      refine ig_iorN hx hb x 4 rfl rfl d_RL_add_89 ?_
      refine ig_istore (lv' := [(6, .int (nI (x ||| 4))), (0, .ref q0), (3, .int (nI no)), (4, .int (nI g)), (5, .int (nI b))]) hx hb d_RL_add_90 (by decide) rfl ?_
      refine ig_aload_n hx hb 1 d_RL_add_92 rfl rfl ?_
      refine ig_get hx hb hts in_RL hown hK 0 rfl rfl 0 (by decide) (hts _ kw_0_27) (fun _ h => h) rfl d_RL_add_93 ?_
      refine ig_iload hx hb 3 d_RL_add_96 rfl ?_
      obtain ⟨hc, hv⟩ := hv
      refine ig_cald (x := (tT g)) hx hb hK 1 0 rfl rfl g rfl hc (by decide) rfl d_RL_add_98 ?_
      refine ig_bipush (v := 47) hx hb d_RL_add_99 (by decide) ?_
      refine ig_icmp_ne (tgt := 107) hx hb d_RL_add_101 (by decide) (fun h => ?_) (fun h => ?_)
      · have hv := hv.1 h
        refine ig_lv (lv' := [(0, .ref q0), (3, .int (nI no)), (4, .int (nI g)), (5, .int (nI b)), (6, .int (nI (x ||| 4)))]) [1, 2, 3, 4, 0] rfl ?_
        exact j107 _ _ _ _ _ _ _ _ hv
      · have hv := hv.2 h
        refine ig_iinc (v := (nI (g + 1))) (lv' := [(4, .int (nI (g + 1))), (6, .int (nI (x ||| 4))), (0, .ref q0), (3, .int (nI no)), (5, .int (nI b))]) hx hb 3 d_RL_add_104 rfl (ig_inc g 1 (by decide)) (by decide) rfl ?_
        refine ig_lv (lv' := [(0, .ref q0), (3, .int (nI no)), (4, .int (nI (g + 1))), (5, .int (nI b)), (6, .int (nI (x ||| 4)))]) [2, 3, 0, 4, 1] rfl ?_
        exact j107 _ _ _ _ _ _ _ _ hv
  have j30 : ∀ (g : Nat) (b : Nat) (x : Nat) (nCc : Nat) (aSc : Nat → Nat) (aEc : Nat → Nat) (aBc : Nat → Nat) (aLc : Nat → Nat), v_RL_add_30 tT aS aE aB aL nC f a no (p_RL_add tT aS aE aB aL nC f a no) g b x nCc aSc aEc aBc aLc → ig_W zp l ze ({ frames := 3, cells := 0, slots := 0, locals := 73 }) zs zm zargs zbelow zmeth zc (dC, dI) ig_cl0 zA zs.heap 7 0 0 zQ 30 [(0, .ref q0), (3, .int (nI no)), (4, .int (nI g)), (5, .int (nI b)), (6, .int (nI x))] [] [(q0, .inr (ciRL, [.ref qt, .ref qs, .ref qe, .ref qb, .ref ql, .int (nI nCc)])), (qt, .inl (cC, 1000, .inl tT)), (qs, .inl (cI, 60, .inl (fun j => nI (aSc j)))), (qe, .inl (cI, 60, .inl (fun j => nI (aEc j)))), (qb, .inl (cI, 60, .inl (fun j => nI (aBc j)))), (ql, .inl (cI, 60, .inl (fun j => nI (aLc j))))] := by
    intro g b x nCc aSc aEc aBc aLc hv
    unfold v_RL_add_30 at hv
    refine ig_iload hx hb 2 d_RL_add_30 rfl ?_
    refine ig_iload hx hb 3 d_RL_add_32 rfl ?_
    obtain ⟨h1, hv⟩ := hv
    obtain ⟨h2, hv⟩ := hv
    refine ig_icmp_geN (tgt := 73) hx hb g b rfl rfl d_RL_add_34 (by decide) h1 h2 (fun h => ?_) (fun h => ?_)
    · have hv := hv.1 h
      refine ig_lv (lv' := [(0, .ref q0), (3, .int (nI no)), (4, .int (nI g)), (5, .int (nI b)), (6, .int (nI x))]) [0, 1, 2, 3, 4] rfl ?_
      exact j73 _ _ _ _ _ _ _ _ hv
    · have hv := hv.2 h
      refine ig_aload_n hx hb 0 d_RL_add_37 rfl rfl ?_
      refine ig_get hx hb hts in_RL hown hK 0 rfl rfl 0 (by decide) (hts _ kw_0_27) (fun _ h => h) rfl d_RL_add_38 ?_
      refine ig_iload hx hb 3 d_RL_add_41 rfl ?_
      refine ig_iconst (v := 1) hx hb d_RL_add_43 (by decide) ?_
      obtain ⟨hc, hv⟩ := hv
      refine ig_isubN hx hb b 1 rfl rfl hc d_RL_add_44 ?_
      obtain ⟨hc, hv⟩ := hv
      refine ig_cald (x := (tT (b - 1))) hx hb hK 1 0 rfl rfl (b - 1) rfl hc (by decide) rfl d_RL_add_45 ?_
      refine ig_bipush (v := 47) hx hb d_RL_add_46 (by decide) ?_
      refine ig_icmp_ne (tgt := 73) hx hb d_RL_add_48 (by decide) (fun h => ?_) (fun h => ?_)
      · have hv := hv.1 h
        refine ig_lv (lv' := [(0, .ref q0), (3, .int (nI no)), (4, .int (nI g)), (5, .int (nI b)), (6, .int (nI x))]) [0, 1, 2, 3, 4] rfl ?_
        exact j73 _ _ _ _ _ _ _ _ hv
      · have hv := hv.2 h
        refine ig_aload_n hx hb 0 d_RL_add_51 rfl rfl ?_
        refine ig_iload hx hb 2 d_RL_add_52 rfl ?_
        refine ig_iload hx hb 3 d_RL_add_54 rfl ?_
        refine ig_iconst (v := 1) hx hb d_RL_add_56 (by decide) ?_
        obtain ⟨hc, hv⟩ := hv
        refine ig_isubN hx hb b 1 rfl rfl hc d_RL_add_57 ?_
        obtain ⟨hc, hv⟩ := hv
        refine ig_cVi (As := [.int (nI g), .int (nI (b - 1))]) (rest := []) (wr := [(qs, .inl (cI, 60, .inl (fun j => nI (aSc j)))), (qe, .inl (cI, 60, .inl (fun j => nI (aEc j)))), (qb, .inl (cI, 60, .inl (fun j => nI (aBc j)))), (ql, .inl (cI, 60, .inl (fun j => nI (aLc j))))]) (ws' := fun u => [(q0, .inr (ciRL, [.ref qt, .ref qs, .ref qe, .ref qb, .ref ql, .int (nI nCc)])), (qt, .inl (cC, 1000, .inl tT)), (qs, .inl (cI, 60, .inl (fun j => nI (aSc j)))), (qe, .inl (cI, 60, .inl (fun j => nI (aEc j)))), (qb, .inl (cI, 60, .inl (fun j => nI (aBc j)))), (ql, .inl (cI, 60, .inl (fun j => nI (aLc j))))]) hx hb hml hown hts hK hN hA (fun sz => c_RL_isEscaped l dC dI cC cI cZ cL q0 qt qs qe qb ql (nI nCc) tT g (b - 1) sz hc) ⟨callB_of 2 hts g_RL_isEscaped rfl rfl rfl (hts _ kw_0_2) (hts _ kw_0_124) (by decide +kernel) (by decide), (hts _ kw_0_126), (hts _ ks_RL_isEscaped)⟩ rfl rfl (Nat.le_of_ble_eq_true rfl) d_RL_add_58 (by decide) 0 rfl rfl [0, 1] [2, 3, 4, 5] [4, 5, 0, 1, 2, 3] rfl rfl (by decide) (by decide) (by decide) (fun _ => rfl) (fun _ => rfl) (fun r u hr => ?_)
        obtain ⟨rr, rfl, hr⟩ := hr
        unfold p_RL_isEscaped at hr
        subst hr
        refine ig_if_neB (tgt := 73) hx hb (sp_esc tT g (b - 1)) rfl d_RL_add_61 (by decide) (fun h => ?_) (fun h => ?_)
        · have hv := hv.1 h
          refine ig_lv (lv' := [(0, .ref q0), (3, .int (nI no)), (4, .int (nI g)), (5, .int (nI b)), (6, .int (nI x))]) [0, 1, 2, 3, 4] rfl ?_
          exact j73 _ _ _ _ _ _ _ _ hv
        · have hv := hv.2 h
          refine ig_iload hx hb 4 d_RL_add_64 rfl ?_
          refine ig_iconst (v := 2) hx hb d_RL_add_66 (by decide) ?_
          refine ig_iorN hx hb x 2 rfl rfl d_RL_add_67 ?_
          refine ig_istore (lv' := [(6, .int (nI (x ||| 2))), (0, .ref q0), (3, .int (nI no)), (4, .int (nI g)), (5, .int (nI b))]) hx hb d_RL_add_68 (by decide) rfl ?_
          obtain ⟨hc, hv⟩ := hv
          refine ig_iinc (v := (nI (b - 1))) (lv' := [(5, .int (nI (b - 1))), (6, .int (nI (x ||| 2))), (0, .ref q0), (3, .int (nI no)), (4, .int (nI g))]) hx hb 4 d_RL_add_70 rfl (ig_dec 1 hc (by decide)) (by decide) rfl ?_
          refine ig_lv (lv' := [(0, .ref q0), (3, .int (nI no)), (4, .int (nI g)), (5, .int (nI (b - 1))), (6, .int (nI (x ||| 2)))]) [2, 3, 4, 0, 1] rfl ?_
          exact j73 _ _ _ _ _ _ _ _ hv
  have hv := t_RL_add tT aS aE aB aL nC f a no hr 
  unfold v_RL_add at hv
  refine ig_iload_n hx hb 1 d_RL_add_0 rfl rfl ?_
  refine ig_istore (lv' := [(4, .int (nI f)), (0, .ref q0), (1, .int (nI f)), (2, .int (nI a)), (3, .int (nI no))]) hx hb d_RL_add_1 (by decide) rfl ?_
  refine ig_iload_n hx hb 3 d_RL_add_3 rfl rfl ?_
  refine ig_istore (lv' := [(5, .int (nI a)), (4, .int (nI f)), (0, .ref q0), (1, .int (nI f)), (2, .int (nI a)), (3, .int (nI no))]) hx hb d_RL_add_4 (by decide) rfl ?_
  refine ig_iconst (v := 0) hx hb d_RL_add_6 (by decide) ?_
  refine ig_istore (lv' := [(6, .int 0), (5, .int (nI a)), (4, .int (nI f)), (0, .ref q0), (1, .int (nI f)), (2, .int (nI a)), (3, .int (nI no))]) hx hb d_RL_add_7 (by decide) rfl ?_
  refine ig_aload_n hx hb 3 d_RL_add_9 rfl rfl ?_
  refine ig_get hx hb hts in_RL hown hK 0 rfl rfl 0 (by decide) (hts _ kw_0_27) (fun _ h => h) rfl d_RL_add_10 ?_
  refine ig_iload hx hb 2 d_RL_add_13 rfl ?_
  obtain ⟨hc, hv⟩ := hv
  refine ig_cald (x := (tT f)) hx hb hK 1 0 rfl rfl f rfl hc (by decide) rfl d_RL_add_15 ?_
  refine ig_bipush (v := 33) hx hb d_RL_add_16 (by decide) ?_
  refine ig_icmp_ne (tgt := 30) hx hb d_RL_add_18 (by decide) (fun h => ?_) (fun h => ?_)
  · have hv := hv.1 h
    refine ig_lv (lv' := [(0, .ref q0), (3, .int (nI no)), (4, .int (nI f)), (5, .int (nI a)), (6, .int 0)]) [3, 6, 2, 1, 0] rfl ?_
    exact j30 _ _ _ _ _ _ _ _ hv
  · have hv := hv.2 h
    refine ig_iload hx hb 0 d_RL_add_21 rfl ?_
    refine ig_iconst (v := 1) hx hb d_RL_add_23 (by decide) ?_
    refine ig_iorN hx hb 0 1 rfl rfl d_RL_add_24 ?_
    refine ig_istore (lv' := [(6, .int (nI (0 ||| 1))), (5, .int (nI a)), (4, .int (nI f)), (0, .ref q0), (1, .int (nI f)), (2, .int (nI a)), (3, .int (nI no))]) hx hb d_RL_add_25 (by decide) rfl ?_
    refine ig_iinc (v := (nI (f + 1))) (lv' := [(4, .int (nI (f + 1))), (6, .int (nI (0 ||| 1))), (5, .int (nI a)), (0, .ref q0), (1, .int (nI f)), (2, .int (nI a)), (3, .int (nI no))]) hx hb 2 d_RL_add_27 rfl (ig_inc f 1 (by decide)) (by decide) rfl ?_
    refine ig_lv (lv' := [(0, .ref q0), (3, .int (nI no)), (4, .int (nI (f + 1))), (5, .int (nI a)), (6, .int (nI (0 ||| 1)))]) [3, 6, 0, 2, 1] rfl ?_
    exact j30 _ _ _ _ _ _ _ _ hv
theorem d_RL_load_0 : decode b_RL_load 0 = .ok (.iconst 0, 1) := by decide +kernel
theorem d_RL_load_1 : decode b_RL_load 1 = .ok (.istore_n 3, 1) := by decide +kernel
theorem d_RL_load_2 : decode b_RL_load 2 = .ok (.iload_n 3, 1) := by decide +kernel
theorem d_RL_load_3 : decode b_RL_load 3 = .ok (.iload_n 2, 1) := by decide +kernel
theorem d_RL_load_4 : decode b_RL_load 4 = .ok (.if_icmp .ge 18, 3) := by decide +kernel
theorem d_RL_load_7 : decode b_RL_load 7 = .ok (.aload_n 0, 1) := by decide +kernel
theorem d_RL_load_8 : decode b_RL_load 8 = .ok (.getfield 9, 3) := by decide +kernel
theorem d_RL_load_11 : decode b_RL_load 11 = .ok (.iload_n 3, 1) := by decide +kernel
theorem d_RL_load_12 : decode b_RL_load 12 = .ok (.aload_n 1, 1) := by decide +kernel
theorem d_RL_load_13 : decode b_RL_load 13 = .ok (.iload_n 3, 1) := by decide +kernel
theorem d_RL_load_14 : decode b_RL_load 14 = .ok (.caload, 1) := by decide +kernel
theorem d_RL_load_15 : decode b_RL_load 15 = .ok (.castore, 1) := by decide +kernel
theorem d_RL_load_16 : decode b_RL_load 16 = .ok (.iinc 3 1, 3) := by decide +kernel
theorem d_RL_load_19 : decode b_RL_load 19 = .ok (.goto (-17), 3) := by decide +kernel
theorem d_RL_load_22 : decode b_RL_load 22 = .ok (.aload_n 0, 1) := by decide +kernel
theorem d_RL_load_23 : decode b_RL_load 23 = .ok (.iconst 0, 1) := by decide +kernel
theorem d_RL_load_24 : decode b_RL_load 24 = .ok (.putfield 28, 3) := by decide +kernel
theorem d_RL_load_27 : decode b_RL_load 27 = .ok (.iconst 0, 1) := by decide +kernel
theorem d_RL_load_28 : decode b_RL_load 28 = .ok (.istore_n 3, 1) := by decide +kernel
theorem d_RL_load_29 : decode b_RL_load 29 = .ok (.iconst 0, 1) := by decide +kernel
theorem d_RL_load_30 : decode b_RL_load 30 = .ok (.istore 4, 2) := by decide +kernel
theorem d_RL_load_32 : decode b_RL_load 32 = .ok (.iconst 0, 1) := by decide +kernel
theorem d_RL_load_33 : decode b_RL_load 33 = .ok (.istore 5, 2) := by decide +kernel
theorem d_RL_load_35 : decode b_RL_load 35 = .ok (.iload 5, 2) := by decide +kernel
theorem d_RL_load_37 : decode b_RL_load 37 = .ok (.iload_n 2, 1) := by decide +kernel
theorem d_RL_load_38 : decode b_RL_load 38 = .ok (.if_icmp .gt 88, 3) := by decide +kernel
theorem d_RL_load_41 : decode b_RL_load 41 = .ok (.iload 5, 2) := by decide +kernel
theorem d_RL_load_43 : decode b_RL_load 43 = .ok (.iload_n 2, 1) := by decide +kernel
theorem d_RL_load_44 : decode b_RL_load 44 = .ok (.if_icmp .ge 18, 3) := by decide +kernel
theorem d_RL_load_47 : decode b_RL_load 47 = .ok (.aload_n 0, 1) := by decide +kernel
theorem d_RL_load_48 : decode b_RL_load 48 = .ok (.getfield 9, 3) := by decide +kernel
theorem d_RL_load_51 : decode b_RL_load 51 = .ok (.iload 5, 2) := by decide +kernel
theorem d_RL_load_53 : decode b_RL_load 53 = .ok (.caload, 1) := by decide +kernel
theorem d_RL_load_54 : decode b_RL_load 54 = .ok (.bipush 10, 2) := by decide +kernel
theorem d_RL_load_56 : decode b_RL_load 56 = .ok (.if_icmp .eq 6, 3) := by decide +kernel
theorem d_RL_load_59 : decode b_RL_load 59 = .ok (.goto 61, 3) := by decide +kernel
theorem d_RL_load_62 : decode b_RL_load 62 = .ok (.aload_n 0, 1) := by decide +kernel
theorem d_RL_load_63 : decode b_RL_load 63 = .ok (.iload 4, 2) := by decide +kernel
theorem d_RL_load_65 : decode b_RL_load 65 = .ok (.iload 5, 2) := by decide +kernel
theorem d_RL_load_67 : decode b_RL_load 67 = .ok (.invokevirtual 32, 3) := by decide +kernel
theorem d_RL_load_70 : decode b_RL_load 70 = .ok (.istore 6, 2) := by decide +kernel
theorem d_RL_load_72 : decode b_RL_load 72 = .ok (.iload 4, 2) := by decide +kernel
theorem d_RL_load_74 : decode b_RL_load 74 = .ok (.iload 6, 2) := by decide +kernel
theorem d_RL_load_76 : decode b_RL_load 76 = .ok (.if_icmp .ge 35, 3) := by decide +kernel
theorem d_RL_load_79 : decode b_RL_load 79 = .ok (.aload_n 0, 1) := by decide +kernel
theorem d_RL_load_80 : decode b_RL_load 80 = .ok (.getfield 9, 3) := by decide +kernel
theorem d_RL_load_83 : decode b_RL_load 83 = .ok (.iload 4, 2) := by decide +kernel
theorem d_RL_load_85 : decode b_RL_load 85 = .ok (.caload, 1) := by decide +kernel
theorem d_RL_load_86 : decode b_RL_load 86 = .ok (.bipush 35, 2) := by decide +kernel
theorem d_RL_load_88 : decode b_RL_load 88 = .ok (.if_icmp .eq 23, 3) := by decide +kernel
theorem d_RL_load_91 : decode b_RL_load 91 = .ok (.aload_n 0, 1) := by decide +kernel
theorem d_RL_load_92 : decode b_RL_load 92 = .ok (.getfield 28, 3) := by decide +kernel
theorem d_RL_load_95 : decode b_RL_load 95 = .ok (.bipush 60, 2) := by decide +kernel
theorem d_RL_load_97 : decode b_RL_load 97 = .ok (.if_icmp .ne 5, 3) := by decide +kernel
theorem d_RL_load_100 : decode b_RL_load 100 = .ok (.iconst 0, 1) := by decide +kernel
theorem d_RL_load_101 : decode b_RL_load 101 = .ok (.ireturn, 1) := by decide +kernel
theorem d_RL_load_102 : decode b_RL_load 102 = .ok (.aload_n 0, 1) := by decide +kernel
theorem d_RL_load_103 : decode b_RL_load 103 = .ok (.iload 4, 2) := by decide +kernel
theorem d_RL_load_105 : decode b_RL_load 105 = .ok (.iload 6, 2) := by decide +kernel
theorem d_RL_load_107 : decode b_RL_load 107 = .ok (.iload_n 3, 1) := by decide +kernel
theorem d_RL_load_108 : decode b_RL_load 108 = .ok (.invokevirtual 36, 3) := by decide +kernel
theorem d_RL_load_111 : decode b_RL_load 111 = .ok (.iinc 3 1, 3) := by decide +kernel
theorem d_RL_load_114 : decode b_RL_load 114 = .ok (.iload 5, 2) := by decide +kernel
theorem d_RL_load_116 : decode b_RL_load 116 = .ok (.iconst 1, 1) := by decide +kernel
theorem d_RL_load_117 : decode b_RL_load 117 = .ok (.iadd, 1) := by decide +kernel
theorem d_RL_load_118 : decode b_RL_load 118 = .ok (.istore 4, 2) := by decide +kernel
theorem d_RL_load_120 : decode b_RL_load 120 = .ok (.iinc 5 1, 3) := by decide +kernel
theorem d_RL_load_123 : decode b_RL_load 123 = .ok (.goto (-88), 3) := by decide +kernel
theorem d_RL_load_126 : decode b_RL_load 126 = .ok (.iconst 1, 1) := by decide +kernel
theorem d_RL_load_127 : decode b_RL_load 127 = .ok (.ireturn, 1) := by decide +kernel
abbrev w_RL_load : List Cond := Cond.code y_RL_load b_RL_load 7 (some .boolean) :: ig_T
theorem g_RL_load : GoodIn ig_T w_RL_load := ig_T_good (ig_T_mem (List.mem_append_left _ (List.mem_of_getElem? (i := 119) rfl)) rfl)
set_option maxHeartbeats 4000000 in
set_option maxRecDepth 100000 in
theorem c_RL_load (l : Launch) (dC : Nat → ClassId) (dI : Nat → Nat → Nat) (cC cI cZ cL : ClassId) (q0 qt qs qe qb ql qS : Nat)  (tT : Nat → Int32) (aS : Nat → Nat) (aE : Nat → Nat) (aB : Nat → Nat) (aL : Nat → Nat) (nC : Nat) (sT : Nat → Int32) (n : Nat) (sz : Nat) (hr : r_RL_load tT aS aE aB aL nC sT n) : Met l y_RL_load w_RL_load ({ frames := 4, cells := 0, slots := 0, locals := 99 }) (ig_Pc (dC, dI) ig_cl0 [(cC, .char), (cI, .int), (cZ, .boolean), (cL, .long)] [.ref q0, .ref qS, .int (nI n)] [(q0, .inr (ciRL, [.ref qt, .ref qs, .ref qe, .ref qb, .ref ql, .int (nI nC)])), (qt, .inl (cC, 1000, .inl tT)), (qs, .inl (cI, 60, .inl (fun j => nI (aS j)))), (qe, .inl (cI, 60, .inl (fun j => nI (aE j)))), (qb, .inl (cI, 60, .inl (fun j => nI (aB j)))), (ql, .inl (cI, 60, .inl (fun j => nI (aL j)))), (qS, .inl (cC, 1000, .inl sT))] sz) (va_Qi (fun (r : Int32) (u : (Nat → Int32) × (Nat → Nat) × (Nat → Nat) × (Nat → Nat) × (Nat → Nat) × Nat) => ∃ zr : Bool, r = bI zr ∧ p_RL_load tT aS aE aB aL nC sT n zr u.1 u.2.1 u.2.2.1 u.2.2.2.1 u.2.2.2.2.1 u.2.2.2.2.2) (fun u t => va_P (dC, dI) ig_cl0 ((fun (u : (Nat → Int32) × (Nat → Nat) × (Nat → Nat) × (Nat → Nat) × (Nat → Nat) × Nat) => [(q0, .inr (ciRL, [.ref qt, .ref qs, .ref qe, .ref qb, .ref ql, .int (nI u.2.2.2.2.2)])), (qt, .inl (cC, 1000, .inl u.1)), (qs, .inl (cI, 60, .inl (fun j => nI (u.2.1 j)))), (qe, .inl (cI, 60, .inl (fun j => nI (u.2.2.1 j)))), (qb, .inl (cI, 60, .inl (fun j => nI (u.2.2.2.1 j)))), (ql, .inl (cI, 60, .inl (fun j => nI (u.2.2.2.2.1 j)))), (qS, .inl (cC, 1000, .inl sT))]) u) t.heap ∧ va_D (va_A [(q0, .inr (ciRL, [.ref qt, .ref qs, .ref qe, .ref qb, .ref ql, .int (nI nC)])), (qt, .inl (cC, 1000, .inl tT)), (qs, .inl (cI, 60, .inl (fun j => nI (aS j)))), (qe, .inl (cI, 60, .inl (fun j => nI (aE j)))), (qb, .inl (cI, 60, .inl (fun j => nI (aB j)))), (ql, .inl (cI, 60, .inl (fun j => nI (aL j)))), (qS, .inl (cC, 1000, .inl sT))] sz) ((fun (u : (Nat → Int32) × (Nat → Nat) × (Nat → Nat) × (Nat → Nat) × (Nat → Nat) × Nat) => [(q0, .inr (ciRL, [.ref qt, .ref qs, .ref qe, .ref qb, .ref ql, .int (nI u.2.2.2.2.2)])), (qt, .inl (cC, 1000, .inl u.1)), (qs, .inl (cI, 60, .inl (fun j => nI (u.2.1 j)))), (qe, .inl (cI, 60, .inl (fun j => nI (u.2.2.1 j)))), (qb, .inl (cI, 60, .inl (fun j => nI (u.2.2.2.1 j)))), (ql, .inl (cI, 60, .inl (fun j => nI (u.2.2.2.2.1 j)))), (qS, .inl (cC, 1000, .inl sT))]) u)) (va_A [(q0, .inr (ciRL, [.ref qt, .ref qs, .ref qe, .ref qb, .ref ql, .int (nI nC)])), (qt, .inl (cC, 1000, .inl tT)), (qs, .inl (cI, 60, .inl (fun j => nI (aS j)))), (qe, .inl (cI, 60, .inl (fun j => nI (aE j)))), (qb, .inl (cI, 60, .inl (fun j => nI (aB j)))), (ql, .inl (cI, 60, .inl (fun j => nI (aL j)))), (qS, .inl (cC, 1000, .inl sT))] sz)) 0 0 (va_A [(q0, .inr (ciRL, [.ref qt, .ref qs, .ref qe, .ref qb, .ref ql, .int (nI nC)])), (qt, .inl (cC, 1000, .inl tT)), (qs, .inl (cI, 60, .inl (fun j => nI (aS j)))), (qe, .inl (cI, 60, .inl (fun j => nI (aE j)))), (qb, .inl (cI, 60, .inl (fun j => nI (aB j)))), (ql, .inl (cI, 60, .inl (fun j => nI (aL j)))), (qS, .inl (cC, 1000, .inl sT))] sz) := by
  refine ig_metI (fun (r : Int32) (u : (Nat → Int32) × (Nat → Nat) × (Nat → Nat) × (Nat → Nat) × (Nat → Nat) × Nat) => ∃ zr : Bool, r = bI zr ∧ p_RL_load tT aS aE aB aL nC sT n zr u.1 u.2.1 u.2.2.1 u.2.2.2.1 u.2.2.2.2.1 u.2.2.2.2.2) (fun (u : (Nat → Int32) × (Nat → Nat) × (Nat → Nat) × (Nat → Nat) × (Nat → Nat) × Nat) => [(q0, .inr (ciRL, [.ref qt, .ref qs, .ref qe, .ref qb, .ref ql, .int (nI u.2.2.2.2.2)])), (qt, .inl (cC, 1000, .inl u.1)), (qs, .inl (cI, 60, .inl (fun j => nI (u.2.1 j)))), (qe, .inl (cI, 60, .inl (fun j => nI (u.2.2.1 j)))), (qb, .inl (cI, 60, .inl (fun j => nI (u.2.2.2.1 j)))), (ql, .inl (cI, 60, .inl (fun j => nI (u.2.2.2.2.1 j)))), (qS, .inl (cC, 1000, .inl sT))]) (by decide) rfl (Nat.le_of_ble_eq_true rfl) rfl (by rintro r u ⟨b, rfl, -⟩; exact bI_ret b) ?_
  intro zp ze zs zm zargs zbelow zmeth zc zA zQ hx hb hml hown hts hK hN hA hret
  obtain ⟨K2, hK2⟩ : ∃ K : Nat → Nat → (Nat → Int32) → (Nat → Nat) → (Nat → Nat) → (Nat → Nat) → (Nat → Nat) → Prop, K = fun (x : Nat) (nCc : Nat) (tTc : Nat → Int32) (aSc : Nat → Nat) (aEc : Nat → Nat) (aBc : Nat → Nat) (aLc : Nat → Nat) => ig_W zp l ze ({ frames := 4, cells := 0, slots := 0, locals := 99 }) zs zm zargs zbelow zmeth zc (dC, dI) ig_cl0 zA zs.heap 7 0 0 zQ 2 [(0, .ref q0), (1, .ref qS), (2, .int (nI n)), (3, .int (nI x))] [] [(q0, .inr (ciRL, [.ref qt, .ref qs, .ref qe, .ref qb, .ref ql, .int (nI nCc)])), (qt, .inl (cC, 1000, .inl tTc)), (qs, .inl (cI, 60, .inl (fun j => nI (aSc j)))), (qe, .inl (cI, 60, .inl (fun j => nI (aEc j)))), (qb, .inl (cI, 60, .inl (fun j => nI (aBc j)))), (ql, .inl (cI, 60, .inl (fun j => nI (aLc j)))), (qS, .inl (cC, 1000, .inl sT))] := ⟨_, rfl⟩
  obtain ⟨K35, hK35⟩ : ∃ K : Nat → Nat → Nat → Nat → (Nat → Int32) → (Nat → Nat) → (Nat → Nat) → (Nat → Nat) → (Nat → Nat) → Prop, K = fun (x : Nat) (g : Nat) (b : Nat) (nCc : Nat) (tTc : Nat → Int32) (aSc : Nat → Nat) (aEc : Nat → Nat) (aBc : Nat → Nat) (aLc : Nat → Nat) => ig_W zp l ze ({ frames := 4, cells := 0, slots := 0, locals := 99 }) zs zm zargs zbelow zmeth zc (dC, dI) ig_cl0 zA zs.heap 7 0 0 zQ 35 [(0, .ref q0), (2, .int (nI n)), (3, .int (nI x)), (4, .int (nI g)), (5, .int (nI b))] [] [(q0, .inr (ciRL, [.ref qt, .ref qs, .ref qe, .ref qb, .ref ql, .int (nI nCc)])), (qt, .inl (cC, 1000, .inl tTc)), (qs, .inl (cI, 60, .inl (fun j => nI (aSc j)))), (qe, .inl (cI, 60, .inl (fun j => nI (aEc j)))), (qb, .inl (cI, 60, .inl (fun j => nI (aBc j)))), (ql, .inl (cI, 60, .inl (fun j => nI (aLc j)))), (qS, .inl (cC, 1000, .inl sT))] := ⟨_, rfl⟩
  have j111 : ∀ (x : Nat) (b : Nat) (nCc : Nat) (tTc : Nat → Int32) (aSc : Nat → Nat) (aEc : Nat → Nat) (aBc : Nat → Nat) (aLc : Nat → Nat), v_RL_load_111 tT aS aE aB aL nC sT n K2 K35 (p_RL_load tT aS aE aB aL nC sT n) x b nCc tTc aSc aEc aBc aLc → ig_W zp l ze ({ frames := 4, cells := 0, slots := 0, locals := 99 }) zs zm zargs zbelow zmeth zc (dC, dI) ig_cl0 zA zs.heap 7 0 0 zQ 111 [(0, .ref q0), (2, .int (nI n)), (3, .int (nI x)), (5, .int (nI b))] [] [(q0, .inr (ciRL, [.ref qt, .ref qs, .ref qe, .ref qb, .ref ql, .int (nI nCc)])), (qt, .inl (cC, 1000, .inl tTc)), (qs, .inl (cI, 60, .inl (fun j => nI (aSc j)))), (qe, .inl (cI, 60, .inl (fun j => nI (aEc j)))), (qb, .inl (cI, 60, .inl (fun j => nI (aBc j)))), (ql, .inl (cI, 60, .inl (fun j => nI (aLc j)))), (qS, .inl (cC, 1000, .inl sT))] := by
    intro x b nCc tTc aSc aEc aBc aLc hv
    unfold v_RL_load_111 at hv
    refine ig_iinc (v := (nI (x + 1))) (lv' := [(3, .int (nI (x + 1))), (0, .ref q0), (2, .int (nI n)), (5, .int (nI b))]) hx hb 2 d_RL_load_111 rfl (ig_inc x 1 (by decide)) (by decide) rfl ?_
    refine ig_iload hx hb 3 d_RL_load_114 rfl ?_
    refine ig_iconst (v := 1) hx hb d_RL_load_116 (by decide) ?_
    refine ig_iaddN hx hb b 1 rfl rfl d_RL_load_117 ?_
    refine ig_istore (lv' := [(4, .int (nI (b + 1))), (3, .int (nI (x + 1))), (0, .ref q0), (2, .int (nI n)), (5, .int (nI b))]) hx hb d_RL_load_118 (by decide) rfl ?_
    refine ig_iinc (v := (nI (b + 1))) (lv' := [(5, .int (nI (b + 1))), (4, .int (nI (b + 1))), (3, .int (nI (x + 1))), (0, .ref q0), (2, .int (nI n))]) hx hb 4 d_RL_load_120 rfl (ig_inc b 1 (by decide)) (by decide) rfl ?_
    refine ig_goto (tgt := 35) hx hb d_RL_load_123 (by decide) ?_
    refine ig_lv (lv' := [(0, .ref q0), (2, .int (nI n)), (3, .int (nI (x + 1))), (4, .int (nI (b + 1))), (5, .int (nI (b + 1)))]) [3, 4, 2, 1, 0] rfl ?_
    rw [hK35] at hv
    exact hv
  have j62 : ∀ (x : Nat) (g : Nat) (b : Nat) (nCc : Nat) (tTc : Nat → Int32) (aSc : Nat → Nat) (aEc : Nat → Nat) (aBc : Nat → Nat) (aLc : Nat → Nat), v_RL_load_62 tT aS aE aB aL nC sT n K2 K35 (p_RL_load tT aS aE aB aL nC sT n) x g b nCc tTc aSc aEc aBc aLc → ig_W zp l ze ({ frames := 4, cells := 0, slots := 0, locals := 99 }) zs zm zargs zbelow zmeth zc (dC, dI) ig_cl0 zA zs.heap 7 0 0 zQ 62 [(0, .ref q0), (2, .int (nI n)), (3, .int (nI x)), (4, .int (nI g)), (5, .int (nI b))] [] [(q0, .inr (ciRL, [.ref qt, .ref qs, .ref qe, .ref qb, .ref ql, .int (nI nCc)])), (qt, .inl (cC, 1000, .inl tTc)), (qs, .inl (cI, 60, .inl (fun j => nI (aSc j)))), (qe, .inl (cI, 60, .inl (fun j => nI (aEc j)))), (qb, .inl (cI, 60, .inl (fun j => nI (aBc j)))), (ql, .inl (cI, 60, .inl (fun j => nI (aLc j)))), (qS, .inl (cC, 1000, .inl sT))] := by
    intro x g b nCc tTc aSc aEc aBc aLc hv
    unfold v_RL_load_62 at hv
    refine ig_aload_n hx hb 0 d_RL_load_62 rfl rfl ?_
    refine ig_iload hx hb 3 d_RL_load_63 rfl ?_
    refine ig_iload hx hb 4 d_RL_load_65 rfl ?_
    obtain ⟨hc, hv⟩ := hv
    refine ig_cVi (As := [.int (nI g), .int (nI b)]) (rest := []) (wr := [(qs, .inl (cI, 60, .inl (fun j => nI (aSc j)))), (qe, .inl (cI, 60, .inl (fun j => nI (aEc j)))), (qb, .inl (cI, 60, .inl (fun j => nI (aBc j)))), (ql, .inl (cI, 60, .inl (fun j => nI (aLc j)))), (qS, .inl (cC, 1000, .inl sT))]) (ws' := fun u => [(q0, .inr (ciRL, [.ref qt, .ref qs, .ref qe, .ref qb, .ref ql, .int (nI nCc)])), (qt, .inl (cC, 1000, .inl tTc)), (qs, .inl (cI, 60, .inl (fun j => nI (aSc j)))), (qe, .inl (cI, 60, .inl (fun j => nI (aEc j)))), (qb, .inl (cI, 60, .inl (fun j => nI (aBc j)))), (ql, .inl (cI, 60, .inl (fun j => nI (aLc j)))), (qS, .inl (cC, 1000, .inl sT))]) hx hb hml hown hts hK hN hA (fun sz => c_RL_withoutBlanks l dC dI cC cI cZ cL q0 qt qs qe qb ql (nI nCc) tTc g b sz hc) ⟨callB_of 2 hts g_RL_withoutBlanks rfl rfl rfl (hts _ kw_0_2) (hts _ kw_0_120) (by decide +kernel) (by decide), (hts _ kw_0_122), (hts _ ks_RL_withoutBlanks)⟩ rfl rfl (Nat.le_of_ble_eq_true rfl) d_RL_load_67 (by decide) 0 rfl rfl [0, 1] [2, 3, 4, 5, 6] [5, 6, 0, 1, 2, 3, 4] rfl rfl (by decide) (by decide) (by decide) (fun _ => rfl) (fun _ => rfl) (fun r u hr => ?_)
    obtain ⟨rr, rfl, hr⟩ := hr
    unfold p_RL_withoutBlanks at hr
    subst hr
    refine ig_istore (lv' := [(6, .int (nI (sp_strip tTc g b))), (0, .ref q0), (2, .int (nI n)), (3, .int (nI x)), (4, .int (nI g)), (5, .int (nI b))]) hx hb d_RL_load_70 (by decide) rfl ?_
    refine ig_iload hx hb 4 d_RL_load_72 rfl ?_
    refine ig_iload hx hb 0 d_RL_load_74 rfl ?_
    obtain ⟨h1, hv⟩ := hv
    obtain ⟨h2, hv⟩ := hv
    refine ig_icmp_geN (tgt := 111) hx hb g (sp_strip tTc g b) rfl rfl d_RL_load_76 (by decide) h1 h2 (fun h => ?_) (fun h => ?_)
    · have hv := hv.1 h
      refine ig_lv (lv' := [(0, .ref q0), (2, .int (nI n)), (3, .int (nI x)), (5, .int (nI b))]) [1, 2, 3, 5] rfl ?_
      exact j111 _ _ _ _ _ _ _ _ hv
    · have hv := hv.2 h
      refine ig_aload_n hx hb 1 d_RL_load_79 rfl rfl ?_
      refine ig_get hx hb hts in_RL hown hK 0 rfl rfl 0 (by decide) (hts _ kw_0_27) (fun _ h => h) rfl d_RL_load_80 ?_
      refine ig_iload hx hb 4 d_RL_load_83 rfl ?_
      obtain ⟨hc, hv⟩ := hv
      refine ig_cald (x := (tTc g)) hx hb hK 1 0 rfl rfl g rfl hc (by decide) rfl d_RL_load_85 ?_
      refine ig_bipush (v := 35) hx hb d_RL_load_86 (by decide) ?_
      refine ig_icmp_eq (tgt := 111) hx hb d_RL_load_88 (by decide) (fun h => ?_) (fun h => ?_)
      · have hv := hv.1 h
        refine ig_lv (lv' := [(0, .ref q0), (2, .int (nI n)), (3, .int (nI x)), (5, .int (nI b))]) [1, 2, 3, 5] rfl ?_
        exact j111 _ _ _ _ _ _ _ _ hv
      · have hv := hv.2 h
        refine ig_aload_n hx hb 1 d_RL_load_91 rfl rfl ?_
        refine ig_get hx hb hts in_RL hown hK 0 rfl rfl 5 (by decide) (hts _ kw_0_39) (fun _ h => h) rfl d_RL_load_92 ?_
        refine ig_bipush (v := 60) hx hb d_RL_load_95 (by decide) ?_
        obtain ⟨h1, hv⟩ := hv
        refine ig_icmp_neN (tgt := 102) hx hb nCc 60 rfl rfl d_RL_load_97 (by decide) h1 (by decide) (fun h => ?_) (fun h => ?_)
        · have hv := hv.1 h
          refine ig_aload_n hx hb 1 d_RL_load_102 rfl rfl ?_
          refine ig_iload hx hb 4 d_RL_load_103 rfl ?_
          refine ig_iload hx hb 0 d_RL_load_105 rfl ?_
          refine ig_iload_n hx hb 3 d_RL_load_107 rfl rfl ?_
          obtain ⟨hc, hv⟩ := hv
          refine ig_cVv (As := [.int (nI g), .int (nI (sp_strip tTc g b)), .int (nI x)]) (rest := []) (wr := [(qS, .inl (cC, 1000, .inl sT))]) (ws' := fun u => [(q0, .inr (ciRL, [.ref qt, .ref qs, .ref qe, .ref qb, .ref ql, .int (nI u.2.2.2.2)])), (qt, .inl (cC, 1000, .inl tTc)), (qs, .inl (cI, 60, .inl (fun j => nI (u.1 j)))), (qe, .inl (cI, 60, .inl (fun j => nI (u.2.1 j)))), (qb, .inl (cI, 60, .inl (fun j => nI (u.2.2.1 j)))), (ql, .inl (cI, 60, .inl (fun j => nI (u.2.2.2.1 j)))), (qS, .inl (cC, 1000, .inl sT))]) hx hb hml hown hts hK hN hA (fun sz => c_RL_add l dC dI cC cI cZ cL q0 qt qs qe qb ql tTc aSc aEc aBc aLc nCc g (sp_strip tTc g b) x sz hc) ⟨callB_of 3 hts g_RL_add rfl rfl rfl (hts _ kw_0_2) (hts _ kw_0_128) (by decide +kernel) (by decide), (hts _ kw_0_130), (hts _ ks_RL_add)⟩ rfl rfl (Nat.le_of_ble_eq_true rfl) d_RL_load_108 (by decide) 0 rfl rfl [0, 1, 2, 3, 4, 5] [6] [1, 2, 3, 4, 5, 6, 0] rfl rfl (by decide) (by decide) (by decide) (fun _ => rfl) (fun _ => rfl) (fun u hr => ?_)
          obtain ⟨w1, w2, w3, w4, w5⟩ := u
          unfold p_RL_add at hr
          obtain ⟨rfl, rfl, rfl, rfl, rfl⟩ := hr
          refine ig_lv (lv' := [(0, .ref q0), (2, .int (nI n)), (3, .int (nI x)), (5, .int (nI b))]) [1, 2, 3, 5] rfl ?_
          exact j111 _ _ _ _ _ _ _ _ hv
        · have hv := hv.2 h
          refine ig_iconst (v := 0) hx hb d_RL_load_100 (by decide) ?_
          exact hret 101 _ 0 (tTc, aSc, aEc, aBc, aLc, nCc) d_RL_load_101 ⟨false, rfl, hv⟩
  have k2 : ∀ (x : Nat) (nCc : Nat) (tTc : Nat → Int32) (aSc : Nat → Nat) (aEc : Nat → Nat) (aBc : Nat → Nat) (aLc : Nat → Nat), v_RL_load_2 tT aS aE aB aL nC sT n K2 K35 (p_RL_load tT aS aE aB aL nC sT n) x nCc tTc aSc aEc aBc aLc → K2 x nCc tTc aSc aEc aBc aLc := by
    intro x nCc tTc aSc aEc aBc aLc hv
    unfold v_RL_load_2 at hv
    rw [hK2]
    show ig_W zp l ze ({ frames := 4, cells := 0, slots := 0, locals := 99 }) zs zm zargs zbelow zmeth zc (dC, dI) ig_cl0 zA zs.heap 7 0 0 zQ 2 [(0, .ref q0), (1, .ref qS), (2, .int (nI n)), (3, .int (nI x))] [] [(q0, .inr (ciRL, [.ref qt, .ref qs, .ref qe, .ref qb, .ref ql, .int (nI nCc)])), (qt, .inl (cC, 1000, .inl tTc)), (qs, .inl (cI, 60, .inl (fun j => nI (aSc j)))), (qe, .inl (cI, 60, .inl (fun j => nI (aEc j)))), (qb, .inl (cI, 60, .inl (fun j => nI (aBc j)))), (ql, .inl (cI, 60, .inl (fun j => nI (aLc j)))), (qS, .inl (cC, 1000, .inl sT))]
    refine ig_iload_n hx hb 3 d_RL_load_2 rfl rfl ?_
    refine ig_iload_n hx hb 2 d_RL_load_3 rfl rfl ?_
    obtain ⟨h1, hv⟩ := hv
    obtain ⟨h2, hv⟩ := hv
    refine ig_icmp_geN (tgt := 22) hx hb x n rfl rfl d_RL_load_4 (by decide) h1 h2 (fun h => ?_) (fun h => ?_)
    · have hv := hv.1 h
      refine ig_aload_n hx hb 0 d_RL_load_22 rfl rfl ?_
      refine ig_iconst (v := 0) hx hb d_RL_load_23 (by decide) ?_
      refine ig_put (ty := .int) (v := .int 0) (ws' := [(q0, .inr (ciRL, [.ref qt, .ref qs, .ref qe, .ref qb, .ref ql, .int (nI 0)])), (qt, .inl (cC, 1000, .inl tTc)), (qs, .inl (cI, 60, .inl (fun j => nI (aSc j)))), (qe, .inl (cI, 60, .inl (fun j => nI (aEc j)))), (qb, .inl (cI, 60, .inl (fun j => nI (aBc j)))), (ql, .inl (cI, 60, .inl (fun j => nI (aLc j)))), (qS, .inl (cC, 1000, .inl sT))]) hx hb hts in_RL t_RL t_RL_ok n_RL hown hK 0 rfl rfl 5 (by decide) (hts _ kw_0_39) (fun _ h => h) rfl (by decide +kernel) rfl rfl (Nat.le_of_ble_eq_true rfl) d_RL_load_24 rfl ?_
      refine ig_iconst (v := 0) hx hb d_RL_load_27 (by decide) ?_
      refine ig_istore_n (lv' := [(3, .int 0), (0, .ref q0), (1, .ref qS), (2, .int (nI n))]) hx hb d_RL_load_28 rfl (by decide) rfl ?_
      refine ig_iconst (v := 0) hx hb d_RL_load_29 (by decide) ?_
      refine ig_istore (lv' := [(4, .int 0), (3, .int 0), (0, .ref q0), (1, .ref qS), (2, .int (nI n))]) hx hb d_RL_load_30 (by decide) rfl ?_
      refine ig_iconst (v := 0) hx hb d_RL_load_32 (by decide) ?_
      refine ig_istore (lv' := [(5, .int 0), (4, .int 0), (3, .int 0), (0, .ref q0), (1, .ref qS), (2, .int (nI n))]) hx hb d_RL_load_33 (by decide) rfl ?_
      refine ig_lv (lv' := [(0, .ref q0), (2, .int (nI n)), (3, .int 0), (4, .int 0), (5, .int 0)]) [3, 5, 2, 1, 0] rfl ?_
      rw [hK35] at hv
      exact hv
    · have hv := hv.2 h
      refine ig_aload_n hx hb 0 d_RL_load_7 rfl rfl ?_
      refine ig_get hx hb hts in_RL hown hK 0 rfl rfl 0 (by decide) (hts _ kw_0_27) (fun _ h => h) rfl d_RL_load_8 ?_
      refine ig_iload_n hx hb 3 d_RL_load_11 rfl rfl ?_
      refine ig_aload_n hx hb 1 d_RL_load_12 rfl rfl ?_
      refine ig_iload_n hx hb 3 d_RL_load_13 rfl rfl ?_
      obtain ⟨hc, hv⟩ := hv
      refine ig_cald (x := (sT x)) hx hb hK 6 0 rfl rfl x rfl hc (by decide) rfl d_RL_load_14 ?_
      obtain ⟨hc, hv⟩ := hv
      obtain ⟨hn, hv⟩ := hv
      refine ig_cast (f' := upd tTc x (sT x)) (ws' := [(q0, .inr (ciRL, [.ref qt, .ref qs, .ref qe, .ref qb, .ref ql, .int (nI nCc)])), (qt, .inl (cC, 1000, .inl (upd tTc x (sT x)))), (qs, .inl (cI, 60, .inl (fun j => nI (aSc j)))), (qe, .inl (cI, 60, .inl (fun j => nI (aEc j)))), (qb, .inl (cI, 60, .inl (fun j => nI (aBc j)))), (ql, .inl (cI, 60, .inl (fun j => nI (aLc j)))), (qS, .inl (cC, 1000, .inl sT))]) hx hb hK 1 0 rfl rfl x rfl hc (by decide) hn rfl d_RL_load_15 rfl ?_
      refine ig_iinc (v := (nI (x + 1))) (lv' := [(3, .int (nI (x + 1))), (0, .ref q0), (1, .ref qS), (2, .int (nI n))]) hx hb 3 d_RL_load_16 rfl (ig_inc x 1 (by decide)) (by decide) rfl ?_
      refine ig_goto (tgt := 2) hx hb d_RL_load_19 (by decide) ?_
      refine ig_lv (lv' := [(0, .ref q0), (1, .ref qS), (2, .int (nI n)), (3, .int (nI (x + 1)))]) [1, 2, 3, 0] rfl ?_
      rw [hK2] at hv
      exact hv
  have k35 : ∀ (x : Nat) (g : Nat) (b : Nat) (nCc : Nat) (tTc : Nat → Int32) (aSc : Nat → Nat) (aEc : Nat → Nat) (aBc : Nat → Nat) (aLc : Nat → Nat), v_RL_load_35 tT aS aE aB aL nC sT n K2 K35 (p_RL_load tT aS aE aB aL nC sT n) x g b nCc tTc aSc aEc aBc aLc → K35 x g b nCc tTc aSc aEc aBc aLc := by
    intro x g b nCc tTc aSc aEc aBc aLc hv
    unfold v_RL_load_35 at hv
    rw [hK35]
    show ig_W zp l ze ({ frames := 4, cells := 0, slots := 0, locals := 99 }) zs zm zargs zbelow zmeth zc (dC, dI) ig_cl0 zA zs.heap 7 0 0 zQ 35 [(0, .ref q0), (2, .int (nI n)), (3, .int (nI x)), (4, .int (nI g)), (5, .int (nI b))] [] [(q0, .inr (ciRL, [.ref qt, .ref qs, .ref qe, .ref qb, .ref ql, .int (nI nCc)])), (qt, .inl (cC, 1000, .inl tTc)), (qs, .inl (cI, 60, .inl (fun j => nI (aSc j)))), (qe, .inl (cI, 60, .inl (fun j => nI (aEc j)))), (qb, .inl (cI, 60, .inl (fun j => nI (aBc j)))), (ql, .inl (cI, 60, .inl (fun j => nI (aLc j)))), (qS, .inl (cC, 1000, .inl sT))]
    refine ig_iload hx hb 4 d_RL_load_35 rfl ?_
    refine ig_iload_n hx hb 1 d_RL_load_37 rfl rfl ?_
    obtain ⟨h1, hv⟩ := hv
    obtain ⟨h2, hv⟩ := hv
    refine ig_icmp_gtN (tgt := 126) hx hb b n rfl rfl d_RL_load_38 (by decide) h1 h2 (fun h => ?_) (fun h => ?_)
    · have hv := hv.1 h
      refine ig_iconst (v := 1) hx hb d_RL_load_126 (by decide) ?_
      exact hret 127 _ 1 (tTc, aSc, aEc, aBc, aLc, nCc) d_RL_load_127 ⟨true, rfl, hv⟩
    · have hv := hv.2 h
      refine ig_iload hx hb 4 d_RL_load_41 rfl ?_
      refine ig_iload_n hx hb 1 d_RL_load_43 rfl rfl ?_
      obtain ⟨h1, hv⟩ := hv
      obtain ⟨h2, hv⟩ := hv
      refine ig_icmp_geN (tgt := 62) hx hb b n rfl rfl d_RL_load_44 (by decide) h1 h2 (fun h => ?_) (fun h => ?_)
      · have hv := hv.1 h
        refine ig_lv (lv' := [(0, .ref q0), (2, .int (nI n)), (3, .int (nI x)), (4, .int (nI g)), (5, .int (nI b))]) [0, 1, 2, 3, 4] rfl ?_
        exact j62 _ _ _ _ _ _ _ _ _ hv
      · have hv := hv.2 h
        refine ig_aload_n hx hb 0 d_RL_load_47 rfl rfl ?_
        refine ig_get hx hb hts in_RL hown hK 0 rfl rfl 0 (by decide) (hts _ kw_0_27) (fun _ h => h) rfl d_RL_load_48 ?_
        refine ig_iload hx hb 4 d_RL_load_51 rfl ?_
        obtain ⟨hc, hv⟩ := hv
        refine ig_cald (x := (tTc b)) hx hb hK 1 0 rfl rfl b rfl hc (by decide) rfl d_RL_load_53 ?_
        refine ig_bipush (v := 10) hx hb d_RL_load_54 (by decide) ?_
        refine ig_icmp_eq (tgt := 62) hx hb d_RL_load_56 (by decide) (fun h => ?_) (fun h => ?_)
        · have hv := hv.1 h
          refine ig_lv (lv' := [(0, .ref q0), (2, .int (nI n)), (3, .int (nI x)), (4, .int (nI g)), (5, .int (nI b))]) [0, 1, 2, 3, 4] rfl ?_
          exact j62 _ _ _ _ _ _ _ _ _ hv
        · have hv := hv.2 h
          refine ig_goto (tgt := 120) hx hb d_RL_load_59 (by decide) ?_
          refine ig_iinc (v := (nI (b + 1))) (lv' := [(5, .int (nI (b + 1))), (0, .ref q0), (2, .int (nI n)), (3, .int (nI x)), (4, .int (nI g))]) hx hb 4 d_RL_load_120 rfl (ig_inc b 1 (by decide)) (by decide) rfl ?_
          refine ig_goto (tgt := 35) hx hb d_RL_load_123 (by decide) ?_
          refine ig_lv (lv' := [(0, .ref q0), (2, .int (nI n)), (3, .int (nI x)), (4, .int (nI g)), (5, .int (nI (b + 1)))]) [1, 2, 3, 4, 0] rfl ?_
          rw [hK35] at hv
          exact hv
  have hv := t_RL_load tT aS aE aB aL nC sT n hr K2 K35 k2 k35
  unfold v_RL_load at hv
  refine ig_iconst (v := 0) hx hb d_RL_load_0 (by decide) ?_
  refine ig_istore_n (lv' := [(3, .int 0), (0, .ref q0), (1, .ref qS), (2, .int (nI n))]) hx hb d_RL_load_1 rfl (by decide) rfl ?_
  refine ig_lv (lv' := [(0, .ref q0), (1, .ref qS), (2, .int (nI n)), (3, .int 0)]) [1, 2, 3, 0] rfl ?_
  rw [hK2] at hv
  exact hv
theorem d_PA_load_0 : decode b_PA_load 0 = .ok (.aload_n 0, 1) := by decide +kernel
theorem d_PA_load_1 : decode b_PA_load 1 = .ok (.iconst 0, 1) := by decide +kernel
theorem d_PA_load_2 : decode b_PA_load 2 = .ok (.putfield 19, 3) := by decide +kernel
theorem d_PA_load_5 : decode b_PA_load 5 = .ok (.iload_n 2, 1) := by decide +kernel
theorem d_PA_load_6 : decode b_PA_load 6 = .ok (.bipush 120, 2) := by decide +kernel
theorem d_PA_load_8 : decode b_PA_load 8 = .ok (.if_icmp .le 5, 3) := by decide +kernel
theorem d_PA_load_11 : decode b_PA_load 11 = .ok (.iconst 0, 1) := by decide +kernel
theorem d_PA_load_12 : decode b_PA_load 12 = .ok (.ireturn, 1) := by decide +kernel
theorem d_PA_load_13 : decode b_PA_load 13 = .ok (.iconst 0, 1) := by decide +kernel
theorem d_PA_load_14 : decode b_PA_load 14 = .ok (.istore_n 3, 1) := by decide +kernel
theorem d_PA_load_15 : decode b_PA_load 15 = .ok (.iconst 0, 1) := by decide +kernel
theorem d_PA_load_16 : decode b_PA_load 16 = .ok (.istore 4, 2) := by decide +kernel
theorem d_PA_load_18 : decode b_PA_load 18 = .ok (.iload 4, 2) := by decide +kernel
theorem d_PA_load_20 : decode b_PA_load 20 = .ok (.iload_n 2, 1) := by decide +kernel
theorem d_PA_load_21 : decode b_PA_load 21 = .ok (.if_icmp .gt 81, 3) := by decide +kernel
theorem d_PA_load_24 : decode b_PA_load 24 = .ok (.iload 4, 2) := by decide +kernel
theorem d_PA_load_26 : decode b_PA_load 26 = .ok (.iload_n 2, 1) := by decide +kernel
theorem d_PA_load_27 : decode b_PA_load 27 = .ok (.if_icmp .ge 37, 3) := by decide +kernel
theorem d_PA_load_30 : decode b_PA_load 30 = .ok (.aload_n 1, 1) := by decide +kernel
theorem d_PA_load_31 : decode b_PA_load 31 = .ok (.iload 4, 2) := by decide +kernel
theorem d_PA_load_33 : decode b_PA_load 33 = .ok (.caload, 1) := by decide +kernel
theorem d_PA_load_34 : decode b_PA_load 34 = .ok (.bipush 47, 2) := by decide +kernel
theorem d_PA_load_36 : decode b_PA_load 36 = .ok (.if_icmp .eq 28, 3) := by decide +kernel
theorem d_PA_load_39 : decode b_PA_load 39 = .ok (.aload_n 1, 1) := by decide +kernel
theorem d_PA_load_40 : decode b_PA_load 40 = .ok (.iload 4, 2) := by decide +kernel
theorem d_PA_load_42 : decode b_PA_load 42 = .ok (.caload, 1) := by decide +kernel
theorem d_PA_load_43 : decode b_PA_load 43 = .ok (.bipush 10, 2) := by decide +kernel
theorem d_PA_load_45 : decode b_PA_load 45 = .ok (.if_icmp .ne 5, 3) := by decide +kernel
theorem d_PA_load_48 : decode b_PA_load 48 = .ok (.iconst 0, 1) := by decide +kernel
theorem d_PA_load_49 : decode b_PA_load 49 = .ok (.ireturn, 1) := by decide +kernel
theorem d_PA_load_50 : decode b_PA_load 50 = .ok (.aload_n 0, 1) := by decide +kernel
theorem d_PA_load_51 : decode b_PA_load 51 = .ok (.getfield 9, 3) := by decide +kernel
theorem d_PA_load_54 : decode b_PA_load 54 = .ok (.iload 4, 2) := by decide +kernel
theorem d_PA_load_56 : decode b_PA_load 56 = .ok (.aload_n 1, 1) := by decide +kernel
theorem d_PA_load_57 : decode b_PA_load 57 = .ok (.iload 4, 2) := by decide +kernel
theorem d_PA_load_59 : decode b_PA_load 59 = .ok (.caload, 1) := by decide +kernel
theorem d_PA_load_60 : decode b_PA_load 60 = .ok (.castore, 1) := by decide +kernel
theorem d_PA_load_61 : decode b_PA_load 61 = .ok (.goto 35, 3) := by decide +kernel
theorem d_PA_load_64 : decode b_PA_load 64 = .ok (.iload 4, 2) := by decide +kernel
theorem d_PA_load_66 : decode b_PA_load 66 = .ok (.aload_n 0, 1) := by decide +kernel
theorem d_PA_load_67 : decode b_PA_load 67 = .ok (.getfield 15, 3) := by decide +kernel
theorem d_PA_load_70 : decode b_PA_load 70 = .ok (.iload_n 3, 1) := by decide +kernel
theorem d_PA_load_71 : decode b_PA_load 71 = .ok (.iaload, 1) := by decide +kernel
theorem d_PA_load_72 : decode b_PA_load 72 = .ok (.if_icmp .eq 9, 3) := by decide +kernel
theorem d_PA_load_75 : decode b_PA_load 75 = .ok (.iload_n 3, 1) := by decide +kernel
theorem d_PA_load_76 : decode b_PA_load 76 = .ok (.bipush 20, 2) := by decide +kernel
theorem d_PA_load_78 : decode b_PA_load 78 = .ok (.if_icmp .ne 5, 3) := by decide +kernel
theorem d_PA_load_81 : decode b_PA_load 81 = .ok (.iconst 0, 1) := by decide +kernel
theorem d_PA_load_82 : decode b_PA_load 82 = .ok (.ireturn, 1) := by decide +kernel
theorem d_PA_load_83 : decode b_PA_load 83 = .ok (.iinc 3 1, 3) := by decide +kernel
theorem d_PA_load_86 : decode b_PA_load 86 = .ok (.aload_n 0, 1) := by decide +kernel
theorem d_PA_load_87 : decode b_PA_load 87 = .ok (.getfield 15, 3) := by decide +kernel
theorem d_PA_load_90 : decode b_PA_load 90 = .ok (.iload_n 3, 1) := by decide +kernel
theorem d_PA_load_91 : decode b_PA_load 91 = .ok (.iload 4, 2) := by decide +kernel
theorem d_PA_load_93 : decode b_PA_load 93 = .ok (.iconst 1, 1) := by decide +kernel
theorem d_PA_load_94 : decode b_PA_load 94 = .ok (.iadd, 1) := by decide +kernel
theorem d_PA_load_95 : decode b_PA_load 95 = .ok (.iastore, 1) := by decide +kernel
theorem d_PA_load_96 : decode b_PA_load 96 = .ok (.iinc 4 1, 3) := by decide +kernel
theorem d_PA_load_99 : decode b_PA_load 99 = .ok (.goto (-81), 3) := by decide +kernel
theorem d_PA_load_102 : decode b_PA_load 102 = .ok (.aload_n 0, 1) := by decide +kernel
theorem d_PA_load_103 : decode b_PA_load 103 = .ok (.iload_n 3, 1) := by decide +kernel
theorem d_PA_load_104 : decode b_PA_load 104 = .ok (.putfield 19, 3) := by decide +kernel
theorem d_PA_load_107 : decode b_PA_load 107 = .ok (.iconst 1, 1) := by decide +kernel
theorem d_PA_load_108 : decode b_PA_load 108 = .ok (.ireturn, 1) := by decide +kernel
abbrev w_PA_load : List Cond := Cond.code y_PA_load b_PA_load 5 (some .boolean) :: ig_T
theorem g_PA_load : GoodIn ig_T w_PA_load := ig_T_good (ig_T_mem (List.mem_append_left _ (List.mem_of_getElem? (i := 153) rfl)) rfl)
set_option maxHeartbeats 4000000 in
set_option maxRecDepth 100000 in
theorem c_PA_load (l : Launch) (dC : Nat → ClassId) (dI : Nat → Nat → Nat) (cC cI cZ cL : ClassId) (p0 pb ps qS : Nat)  (pC : Nat) (pB : Nat → Int32) (pS : Nat → Nat) (sT : Nat → Int32) (n : Nat) (sz : Nat) (hr : r_PA_load pC pB pS sT n) : Met l y_PA_load w_PA_load ({ frames := 0, cells := 0, slots := 0, locals := 0 }) (ig_Pc (dC, dI) ig_cl0 [(cC, .char), (cI, .int), (cZ, .boolean), (cL, .long)] [.ref p0, .ref qS, .int (nI n)] [(p0, .inr (ciPA, [.ref pb, .ref ps, .int (nI pC)])), (pb, .inl (cC, 120, .inl pB)), (ps, .inl (cI, 21, .inl (fun j => nI (pS j)))), (qS, .inl (cC, 1000, .inl sT))] sz) (va_Qi (fun (r : Int32) (u : Nat × (Nat → Int32) × (Nat → Nat)) => ∃ zr : Bool, r = bI zr ∧ p_PA_load pC pB pS sT n zr u.1 u.2.1 u.2.2) (fun u t => va_P (dC, dI) ig_cl0 ((fun (u : Nat × (Nat → Int32) × (Nat → Nat)) => [(p0, .inr (ciPA, [.ref pb, .ref ps, .int (nI u.1)])), (pb, .inl (cC, 120, .inl u.2.1)), (ps, .inl (cI, 21, .inl (fun j => nI (u.2.2 j)))), (qS, .inl (cC, 1000, .inl sT))]) u) t.heap ∧ va_D (va_A [(p0, .inr (ciPA, [.ref pb, .ref ps, .int (nI pC)])), (pb, .inl (cC, 120, .inl pB)), (ps, .inl (cI, 21, .inl (fun j => nI (pS j)))), (qS, .inl (cC, 1000, .inl sT))] sz) ((fun (u : Nat × (Nat → Int32) × (Nat → Nat)) => [(p0, .inr (ciPA, [.ref pb, .ref ps, .int (nI u.1)])), (pb, .inl (cC, 120, .inl u.2.1)), (ps, .inl (cI, 21, .inl (fun j => nI (u.2.2 j)))), (qS, .inl (cC, 1000, .inl sT))]) u)) (va_A [(p0, .inr (ciPA, [.ref pb, .ref ps, .int (nI pC)])), (pb, .inl (cC, 120, .inl pB)), (ps, .inl (cI, 21, .inl (fun j => nI (pS j)))), (qS, .inl (cC, 1000, .inl sT))] sz)) 0 0 (va_A [(p0, .inr (ciPA, [.ref pb, .ref ps, .int (nI pC)])), (pb, .inl (cC, 120, .inl pB)), (ps, .inl (cI, 21, .inl (fun j => nI (pS j)))), (qS, .inl (cC, 1000, .inl sT))] sz) := by
  refine ig_metI (fun (r : Int32) (u : Nat × (Nat → Int32) × (Nat → Nat)) => ∃ zr : Bool, r = bI zr ∧ p_PA_load pC pB pS sT n zr u.1 u.2.1 u.2.2) (fun (u : Nat × (Nat → Int32) × (Nat → Nat)) => [(p0, .inr (ciPA, [.ref pb, .ref ps, .int (nI u.1)])), (pb, .inl (cC, 120, .inl u.2.1)), (ps, .inl (cI, 21, .inl (fun j => nI (u.2.2 j)))), (qS, .inl (cC, 1000, .inl sT))]) (by decide) rfl (Nat.le_of_ble_eq_true rfl) rfl (by rintro r u ⟨b, rfl, -⟩; exact bI_ret b) ?_
  intro zp ze zs zm zargs zbelow zmeth zc zA zQ hx hb hml hown hts hK hN hA hret
  obtain ⟨K18, hK18⟩ : ∃ K : Nat → Nat → Nat → (Nat → Int32) → (Nat → Nat) → Prop, K = fun (m : Nat) (b : Nat) (pCc : Nat) (pBc : Nat → Int32) (pSc : Nat → Nat) => ig_W zp l ze ({ frames := 0, cells := 0, slots := 0, locals := 0 }) zs zm zargs zbelow zmeth zc (dC, dI) ig_cl0 zA zs.heap 5 0 0 zQ 18 [(0, .ref p0), (1, .ref qS), (2, .int (nI n)), (3, .int (nI m)), (4, .int (nI b))] [] [(p0, .inr (ciPA, [.ref pb, .ref ps, .int (nI pCc)])), (pb, .inl (cC, 120, .inl pBc)), (ps, .inl (cI, 21, .inl (fun j => nI (pSc j)))), (qS, .inl (cC, 1000, .inl sT))] := ⟨_, rfl⟩
  have j64 : ∀ (m : Nat) (b : Nat) (pCc : Nat) (pBc : Nat → Int32) (pSc : Nat → Nat), v_PA_load_64 pC pB pS sT n K18 (p_PA_load pC pB pS sT n) m b pCc pBc pSc → ig_W zp l ze ({ frames := 0, cells := 0, slots := 0, locals := 0 }) zs zm zargs zbelow zmeth zc (dC, dI) ig_cl0 zA zs.heap 5 0 0 zQ 64 [(0, .ref p0), (1, .ref qS), (2, .int (nI n)), (3, .int (nI m)), (4, .int (nI b))] [] [(p0, .inr (ciPA, [.ref pb, .ref ps, .int (nI pCc)])), (pb, .inl (cC, 120, .inl pBc)), (ps, .inl (cI, 21, .inl (fun j => nI (pSc j)))), (qS, .inl (cC, 1000, .inl sT))] := by
    intro m b pCc pBc pSc hv
    unfold v_PA_load_64 at hv
    refine ig_iload hx hb 4 d_PA_load_64 rfl ?_
    refine ig_aload_n hx hb 0 d_PA_load_66 rfl rfl ?_
    refine ig_get hx hb hts in_PA hown hK 0 rfl rfl 1 (by decide) (hts _ kw_0_64) (fun _ h => h) rfl d_PA_load_67 ?_
    refine ig_iload_n hx hb 3 d_PA_load_70 rfl rfl ?_
    obtain ⟨hc, hv⟩ := hv
    refine ig_iald (x := (nI (pSc m))) hx hb hK 2 1 rfl rfl m rfl hc (by decide) rfl d_PA_load_71 ?_
    obtain ⟨h1, hv⟩ := hv
    obtain ⟨h2, hv⟩ := hv
    refine ig_icmp_eqN (tgt := 81) hx hb b (pSc m) rfl rfl d_PA_load_72 (by decide) h1 h2 (fun h => ?_) (fun h => ?_)
    · have hv := hv.1 h
      refine ig_iconst (v := 0) hx hb d_PA_load_81 (by decide) ?_
      exact hret 82 _ 0 (pCc, pBc, pSc) d_PA_load_82 ⟨false, rfl, hv⟩
    · have hv := hv.2 h
      refine ig_iload_n hx hb 3 d_PA_load_75 rfl rfl ?_
      refine ig_bipush (v := 20) hx hb d_PA_load_76 (by decide) ?_
      obtain ⟨h1, hv⟩ := hv
      refine ig_icmp_neN (tgt := 83) hx hb m 20 rfl rfl d_PA_load_78 (by decide) h1 (by decide) (fun h => ?_) (fun h => ?_)
      · have hv := hv.1 h
        refine ig_iinc (v := (nI (m + 1))) (lv' := [(3, .int (nI (m + 1))), (0, .ref p0), (1, .ref qS), (2, .int (nI n)), (4, .int (nI b))]) hx hb 3 d_PA_load_83 rfl (ig_inc m 1 (by decide)) (by decide) rfl ?_
        refine ig_aload_n hx hb 1 d_PA_load_86 rfl rfl ?_
        refine ig_get hx hb hts in_PA hown hK 0 rfl rfl 1 (by decide) (hts _ kw_0_64) (fun _ h => h) rfl d_PA_load_87 ?_
        refine ig_iload_n hx hb 0 d_PA_load_90 rfl rfl ?_
        refine ig_iload hx hb 4 d_PA_load_91 rfl ?_
        refine ig_iconst (v := 1) hx hb d_PA_load_93 (by decide) ?_
        refine ig_iaddN hx hb b 1 rfl rfl d_PA_load_94 ?_
        obtain ⟨hc, hv⟩ := hv
        refine ig_iast (f' := fun j => nI ((updN pSc (m + 1) (b + 1)) j)) (ws' := [(p0, .inr (ciPA, [.ref pb, .ref ps, .int (nI pCc)])), (pb, .inl (cC, 120, .inl pBc)), (ps, .inl (cI, 21, .inl (fun j => nI ((updN pSc (m + 1) (b + 1)) j)))), (qS, .inl (cC, 1000, .inl sT))]) hx hb hK 2 1 rfl rfl (m + 1) rfl hc (by decide) (upd_N pSc (m + 1) (b + 1)) d_PA_load_95 rfl ?_
        refine ig_iinc (v := (nI (b + 1))) (lv' := [(4, .int (nI (b + 1))), (3, .int (nI (m + 1))), (0, .ref p0), (1, .ref qS), (2, .int (nI n))]) hx hb 4 d_PA_load_96 rfl (ig_inc b 1 (by decide)) (by decide) rfl ?_
        refine ig_goto (tgt := 18) hx hb d_PA_load_99 (by decide) ?_
        refine ig_lv (lv' := [(0, .ref p0), (1, .ref qS), (2, .int (nI n)), (3, .int (nI (m + 1))), (4, .int (nI (b + 1)))]) [2, 3, 4, 1, 0] rfl ?_
        rw [hK18] at hv
        exact hv
      · have hv := hv.2 h
        refine ig_iconst (v := 0) hx hb d_PA_load_81 (by decide) ?_
        exact hret 82 _ 0 (pCc, pBc, pSc) d_PA_load_82 ⟨false, rfl, hv⟩
  have k18 : ∀ (m : Nat) (b : Nat) (pCc : Nat) (pBc : Nat → Int32) (pSc : Nat → Nat), v_PA_load_18 pC pB pS sT n K18 (p_PA_load pC pB pS sT n) m b pCc pBc pSc → K18 m b pCc pBc pSc := by
    intro m b pCc pBc pSc hv
    unfold v_PA_load_18 at hv
    rw [hK18]
    show ig_W zp l ze ({ frames := 0, cells := 0, slots := 0, locals := 0 }) zs zm zargs zbelow zmeth zc (dC, dI) ig_cl0 zA zs.heap 5 0 0 zQ 18 [(0, .ref p0), (1, .ref qS), (2, .int (nI n)), (3, .int (nI m)), (4, .int (nI b))] [] [(p0, .inr (ciPA, [.ref pb, .ref ps, .int (nI pCc)])), (pb, .inl (cC, 120, .inl pBc)), (ps, .inl (cI, 21, .inl (fun j => nI (pSc j)))), (qS, .inl (cC, 1000, .inl sT))]
    refine ig_iload hx hb 4 d_PA_load_18 rfl ?_
    refine ig_iload_n hx hb 2 d_PA_load_20 rfl rfl ?_
    obtain ⟨h1, hv⟩ := hv
    obtain ⟨h2, hv⟩ := hv
    refine ig_icmp_gtN (tgt := 102) hx hb b n rfl rfl d_PA_load_21 (by decide) h1 h2 (fun h => ?_) (fun h => ?_)
    · have hv := hv.1 h
      refine ig_aload_n hx hb 0 d_PA_load_102 rfl rfl ?_
      refine ig_iload_n hx hb 3 d_PA_load_103 rfl rfl ?_
      refine ig_put (ty := .int) (v := .int (nI m)) (ws' := [(p0, .inr (ciPA, [.ref pb, .ref ps, .int (nI m)])), (pb, .inl (cC, 120, .inl pBc)), (ps, .inl (cI, 21, .inl (fun j => nI (pSc j)))), (qS, .inl (cC, 1000, .inl sT))]) hx hb hts in_PA t_PA t_PA_ok n_PA hown hK 0 rfl rfl 2 (by decide) (hts _ kw_0_66) (fun _ h => h) rfl (by decide +kernel) rfl rfl (Nat.le_of_ble_eq_true rfl) d_PA_load_104 rfl ?_
      refine ig_iconst (v := 1) hx hb d_PA_load_107 (by decide) ?_
      exact hret 108 _ 1 (m, pBc, pSc) d_PA_load_108 ⟨true, rfl, hv⟩
    · have hv := hv.2 h
      refine ig_iload hx hb 4 d_PA_load_24 rfl ?_
      refine ig_iload_n hx hb 2 d_PA_load_26 rfl rfl ?_
      obtain ⟨h1, hv⟩ := hv
      obtain ⟨h2, hv⟩ := hv
      refine ig_icmp_geN (tgt := 64) hx hb b n rfl rfl d_PA_load_27 (by decide) h1 h2 (fun h => ?_) (fun h => ?_)
      · have hv := hv.1 h
        refine ig_lv (lv' := [(0, .ref p0), (1, .ref qS), (2, .int (nI n)), (3, .int (nI m)), (4, .int (nI b))]) [0, 1, 2, 3, 4] rfl ?_
        exact j64 _ _ _ _ _ hv
      · have hv := hv.2 h
        refine ig_aload_n hx hb 1 d_PA_load_30 rfl rfl ?_
        refine ig_iload hx hb 4 d_PA_load_31 rfl ?_
        obtain ⟨hc, hv⟩ := hv
        refine ig_cald (x := (sT b)) hx hb hK 3 0 rfl rfl b rfl hc (by decide) rfl d_PA_load_33 ?_
        refine ig_bipush (v := 47) hx hb d_PA_load_34 (by decide) ?_
        refine ig_icmp_eq (tgt := 64) hx hb d_PA_load_36 (by decide) (fun h => ?_) (fun h => ?_)
        · have hv := hv.1 h
          refine ig_lv (lv' := [(0, .ref p0), (1, .ref qS), (2, .int (nI n)), (3, .int (nI m)), (4, .int (nI b))]) [0, 1, 2, 3, 4] rfl ?_
          exact j64 _ _ _ _ _ hv
        · have hv := hv.2 h
          refine ig_aload_n hx hb 1 d_PA_load_39 rfl rfl ?_
          refine ig_iload hx hb 4 d_PA_load_40 rfl ?_
          obtain ⟨hc, hv⟩ := hv
          refine ig_cald (x := (sT b)) hx hb hK 3 0 rfl rfl b rfl hc (by decide) rfl d_PA_load_42 ?_
          refine ig_bipush (v := 10) hx hb d_PA_load_43 (by decide) ?_
          refine ig_icmp_ne (tgt := 50) hx hb d_PA_load_45 (by decide) (fun h => ?_) (fun h => ?_)
          · have hv := hv.1 h
            refine ig_aload_n hx hb 0 d_PA_load_50 rfl rfl ?_
            refine ig_get hx hb hts in_PA hown hK 0 rfl rfl 0 (by decide) (hts _ kw_0_62) (fun _ h => h) rfl d_PA_load_51 ?_
            refine ig_iload hx hb 4 d_PA_load_54 rfl ?_
            refine ig_aload_n hx hb 1 d_PA_load_56 rfl rfl ?_
            refine ig_iload hx hb 4 d_PA_load_57 rfl ?_
            obtain ⟨hc, hv⟩ := hv
            refine ig_cald (x := (sT b)) hx hb hK 3 0 rfl rfl b rfl hc (by decide) rfl d_PA_load_59 ?_
            obtain ⟨hc, hv⟩ := hv
            obtain ⟨hn, hv⟩ := hv
            refine ig_cast (f' := upd pBc b (sT b)) (ws' := [(p0, .inr (ciPA, [.ref pb, .ref ps, .int (nI pCc)])), (pb, .inl (cC, 120, .inl (upd pBc b (sT b)))), (ps, .inl (cI, 21, .inl (fun j => nI (pSc j)))), (qS, .inl (cC, 1000, .inl sT))]) hx hb hK 1 0 rfl rfl b rfl hc (by decide) hn rfl d_PA_load_60 rfl ?_
            refine ig_goto (tgt := 96) hx hb d_PA_load_61 (by decide) ?_
            refine ig_iinc (v := (nI (b + 1))) (lv' := [(4, .int (nI (b + 1))), (0, .ref p0), (1, .ref qS), (2, .int (nI n)), (3, .int (nI m))]) hx hb 4 d_PA_load_96 rfl (ig_inc b 1 (by decide)) (by decide) rfl ?_
            refine ig_goto (tgt := 18) hx hb d_PA_load_99 (by decide) ?_
            refine ig_lv (lv' := [(0, .ref p0), (1, .ref qS), (2, .int (nI n)), (3, .int (nI m)), (4, .int (nI (b + 1)))]) [1, 2, 3, 4, 0] rfl ?_
            rw [hK18] at hv
            exact hv
          · have hv := hv.2 h
            refine ig_iconst (v := 0) hx hb d_PA_load_48 (by decide) ?_
            exact hret 49 _ 0 (pCc, pBc, pSc) d_PA_load_49 ⟨false, rfl, hv⟩
  have hv := t_PA_load pC pB pS sT n hr K18 k18
  unfold v_PA_load at hv
  refine ig_aload_n hx hb 0 d_PA_load_0 rfl rfl ?_
  refine ig_iconst (v := 0) hx hb d_PA_load_1 (by decide) ?_
  refine ig_put (ty := .int) (v := .int 0) (ws' := [(p0, .inr (ciPA, [.ref pb, .ref ps, .int (nI 0)])), (pb, .inl (cC, 120, .inl pB)), (ps, .inl (cI, 21, .inl (fun j => nI (pS j)))), (qS, .inl (cC, 1000, .inl sT))]) hx hb hts in_PA t_PA t_PA_ok n_PA hown hK 0 rfl rfl 2 (by decide) (hts _ kw_0_66) (fun _ h => h) rfl (by decide +kernel) rfl rfl (Nat.le_of_ble_eq_true rfl) d_PA_load_2 rfl ?_
  refine ig_iload_n hx hb 2 d_PA_load_5 rfl rfl ?_
  refine ig_bipush (v := 120) hx hb d_PA_load_6 (by decide) ?_
  obtain ⟨h1, hv⟩ := hv
  refine ig_icmp_leN (tgt := 13) hx hb n 120 rfl rfl d_PA_load_8 (by decide) h1 (by decide) (fun h => ?_) (fun h => ?_)
  · have hv := hv.1 h
    refine ig_iconst (v := 0) hx hb d_PA_load_13 (by decide) ?_
    refine ig_istore_n (lv' := [(3, .int 0), (0, .ref p0), (1, .ref qS), (2, .int (nI n))]) hx hb d_PA_load_14 rfl (by decide) rfl ?_
    refine ig_iconst (v := 0) hx hb d_PA_load_15 (by decide) ?_
    refine ig_istore (lv' := [(4, .int 0), (3, .int 0), (0, .ref p0), (1, .ref qS), (2, .int (nI n))]) hx hb d_PA_load_16 (by decide) rfl ?_
    refine ig_lv (lv' := [(0, .ref p0), (1, .ref qS), (2, .int (nI n)), (3, .int 0), (4, .int 0)]) [2, 3, 4, 1, 0] rfl ?_
    rw [hK18] at hv
    exact hv
  · have hv := hv.2 h
    refine ig_iconst (v := 0) hx hb d_PA_load_11 (by decide) ?_
    exact hret 12 _ 0 (0, pB, pS) d_PA_load_12 ⟨false, rfl, hv⟩
end
section
def r_MA_ruleFits (mN : Nat → Bool) (mB : Nat → Bool) (tT : Nat → Int32) (aS : Nat → Nat) (aE : Nat → Nat) (aB : Nat → Nat) (pB : Nat → Int32) (pS : Nat → Nat) (i : Nat) (n : Nat) (d : Bool) : Prop := i < 60 ∧ aS i ≤ aE i ∧ aE i ≤ 1000 ∧ aB i < 16 ∧ (aB i &&& 4 = 0 → sp_eon tT (aE i) (aS i) = aE i) ∧ 1 ≤ n ∧ n ≤ 20 ∧ (∀ j, j < n → pS j + 1 ≤ pS (j + 1)) ∧ pS n ≤ 121
def p_MA_ruleFits (mN : Nat → Bool) (mB : Nat → Bool) (tT : Nat → Int32) (aS : Nat → Nat) (aE : Nat → Nat) (aB : Nat → Nat) (pB : Nat → Int32) (pS : Nat → Nat) (i : Nat) (n : Nat) (d : Bool) (r : Bool) (mN' : Nat → Bool) (mB' : Nat → Bool) : Prop := r = (sp_rf tT (aS i) (aE i) (aB i) pB pS n d)
def v_MA_ruleFits_63 (mN : Nat → Bool) (mB : Nat → Bool) (tT : Nat → Int32) (aS : Nat → Nat) (aE : Nat → Nat) (aB : Nat → Nat) (pB : Nat → Int32) (pS : Nat → Nat) (i : Nat) (n : Nat) (d : Bool) (K89 : Bool → Bool → Nat → Nat → Nat → (Nat → Bool) → (Nat → Bool) → Prop) (Q : Bool → (Nat → Bool) → (Nat → Bool) → Prop) (bd : Bool) (s0 : Nat) (s1 : Nat) (mNc : Nat → Bool) (mBc : Nat → Bool) : Prop := (r_MA_startRow mNc 21 s1 s0) ∧ ((∀ (zw1 : Nat → Bool), q_MA_startRow mNc 21 s1 s0 zw1 → (i < 60) ∧ ((i < 60) ∧ (K89 bd false (aS i) (aE i) (aS i) zw1 mBc))))
def v_MA_ruleFits_42 (mN : Nat → Bool) (mB : Nat → Bool) (tT : Nat → Int32) (aS : Nat → Nat) (aE : Nat → Nat) (aB : Nat → Nat) (pB : Nat → Int32) (pS : Nat → Nat) (i : Nat) (n : Nat) (d : Bool) (K89 : Bool → Bool → Nat → Nat → Nat → (Nat → Bool) → (Nat → Bool) → Prop) (Q : Bool → (Nat → Bool) → (Nat → Bool) → Prop) (s0 : Bool) (mNc : Nat → Bool) (mBc : Nat → Bool) : Prop := (s0 = false → (1 ≤ n) ∧ (v_MA_ruleFits_63 mN mB tT aS aE aB pB pS i n d K89 Q s0 (n - 1) n mNc mBc)) ∧ (s0 = true → v_MA_ruleFits_63 mN mB tT aS aE aB pB pS i n d K89 Q s0 0 n mNc mBc)
def v_MA_ruleFits_30 (mN : Nat → Bool) (mB : Nat → Bool) (tT : Nat → Int32) (aS : Nat → Nat) (aE : Nat → Nat) (aB : Nat → Nat) (pB : Nat → Int32) (pS : Nat → Nat) (i : Nat) (n : Nat) (d : Bool) (K89 : Bool → Bool → Nat → Nat → Nat → (Nat → Bool) → (Nat → Bool) → Prop) (Q : Bool → (Nat → Bool) → (Nat → Bool) → Prop) (bi : Nat) (mNc : Nat → Bool) (mBc : Nat → Bool) : Prop := (bi &&& 4 < 2147483648) ∧ ((bi &&& 4 = 0 → v_MA_ruleFits_42 mN mB tT aS aE aB pB pS i n d K89 Q false mNc mBc) ∧ (¬ bi &&& 4 = 0 → v_MA_ruleFits_42 mN mB tT aS aE aB pB pS i n d K89 Q true mNc mBc))
def v_MA_ruleFits_185 (mN : Nat → Bool) (mB : Nat → Bool) (tT : Nat → Int32) (aS : Nat → Nat) (aE : Nat → Nat) (aB : Nat → Nat) (pB : Nat → Int32) (pS : Nat → Nat) (i : Nat) (n : Nat) (d : Bool) (K89 : Bool → Bool → Nat → Nat → Nat → (Nat → Bool) → (Nat → Bool) → Prop) (Q : Bool → (Nat → Bool) → (Nat → Bool) → Prop) (bd : Bool) (de : Bool) (e1 : Nat) (b : Nat) (mNc : Nat → Bool) (mBc : Nat → Bool) : Prop := K89 bd de (b + 1) e1 (b + 1) mNc mBc
def v_MA_ruleFits_182 (mN : Nat → Bool) (mB : Nat → Bool) (tT : Nat → Int32) (aS : Nat → Nat) (aE : Nat → Nat) (aB : Nat → Nat) (pB : Nat → Int32) (pS : Nat → Nat) (i : Nat) (n : Nat) (d : Bool) (K89 : Bool → Bool → Nat → Nat → Nat → (Nat → Bool) → (Nat → Bool) → Prop) (Q : Bool → (Nat → Bool) → (Nat → Bool) → Prop) (bd : Bool) (de : Bool) (e1 : Nat) (b : Nat) (s0 : Bool) (s1 : Nat) (s3 : Nat) (s4 : Nat) (mNc : Nat → Bool) (mBc : Nat → Bool) : Prop := (r_MA_takeName mNc mBc tT pB pS s4 s3 s1 s0) ∧ ((∀ (mN3 : Nat → Bool) (mB4 : Nat → Bool), q_MA_takeName mNc mBc tT pB pS s4 s3 s1 s0 mN3 mB4 → v_MA_ruleFits_185 mN mB tT aS aE aB pB pS i n d K89 Q bd de e1 b mN3 mB4))
def v_MA_ruleFits_139 (mN : Nat → Bool) (mB : Nat → Bool) (tT : Nat → Int32) (aS : Nat → Nat) (aE : Nat → Nat) (aB : Nat → Nat) (pB : Nat → Int32) (pS : Nat → Nat) (i : Nat) (n : Nat) (d : Bool) (K89 : Bool → Bool → Nat → Nat → Nat → (Nat → Bool) → (Nat → Bool) → Prop) (Q : Bool → (Nat → Bool) → (Nat → Bool) → Prop) (bd : Bool) (g : Nat) (e1 : Nat) (b : Nat) (s0 : Bool) (mNc : Nat → Bool) (mBc : Nat → Bool) : Prop := (s0 = false → (b < 2147483648) ∧ ((e1 < 2147483648) ∧ ((¬ b = e1 → v_MA_ruleFits_182 mN mB tT aS aE aB pB pS i n d K89 Q bd s0 e1 b false n b g mNc mBc) ∧ (b = e1 → v_MA_ruleFits_182 mN mB tT aS aE aB pB pS i n d K89 Q bd s0 e1 b true n b g mNc mBc)))) ∧ (s0 = true → (r_MA_spread mNc 21 n) ∧ ((∀ (zw2 : Nat → Bool), q_MA_spread mNc 21 n zw2 → v_MA_ruleFits_185 mN mB tT aS aE aB pB pS i n d K89 Q bd s0 e1 b zw2 mBc)))
def v_MA_ruleFits_138 (mN : Nat → Bool) (mB : Nat → Bool) (tT : Nat → Int32) (aS : Nat → Nat) (aE : Nat → Nat) (aB : Nat → Nat) (pB : Nat → Int32) (pS : Nat → Nat) (i : Nat) (n : Nat) (d : Bool) (K89 : Bool → Bool → Nat → Nat → Nat → (Nat → Bool) → (Nat → Bool) → Prop) (Q : Bool → (Nat → Bool) → (Nat → Bool) → Prop) (bd : Bool) (g : Nat) (e1 : Nat) (b : Nat) (mNc : Nat → Bool) (mBc : Nat → Bool) : Prop := v_MA_ruleFits_139 mN mB tT aS aE aB pB pS i n d K89 Q bd g e1 b false mNc mBc
def v_MA_ruleFits_115 (mN : Nat → Bool) (mB : Nat → Bool) (tT : Nat → Int32) (aS : Nat → Nat) (aE : Nat → Nat) (aB : Nat → Nat) (pB : Nat → Int32) (pS : Nat → Nat) (i : Nat) (n : Nat) (d : Bool) (K89 : Bool → Bool → Nat → Nat → Nat → (Nat → Bool) → (Nat → Bool) → Prop) (Q : Bool → (Nat → Bool) → (Nat → Bool) → Prop) (bd : Bool) (g : Nat) (e1 : Nat) (b : Nat) (mNc : Nat → Bool) (mBc : Nat → Bool) : Prop := (bd = false → v_MA_ruleFits_138 mN mB tT aS aE aB pB pS i n d K89 Q bd g e1 b mNc mBc) ∧ (bd = true → (r_MA_isDeep tT g b) ∧ ((sp_deep tT g b = false → v_MA_ruleFits_138 mN mB tT aS aE aB pB pS i n d K89 Q bd g e1 b mNc mBc) ∧ (sp_deep tT g b = true → v_MA_ruleFits_139 mN mB tT aS aE aB pB pS i n d K89 Q bd g e1 b true mNc mBc)))
def v_MA_ruleFits_89 (mN : Nat → Bool) (mB : Nat → Bool) (tT : Nat → Int32) (aS : Nat → Nat) (aE : Nat → Nat) (aB : Nat → Nat) (pB : Nat → Int32) (pS : Nat → Nat) (i : Nat) (n : Nat) (d : Bool) (K89 : Bool → Bool → Nat → Nat → Nat → (Nat → Bool) → (Nat → Bool) → Prop) (Q : Bool → (Nat → Bool) → (Nat → Bool) → Prop) (bd : Bool) (de : Bool) (g : Nat) (e1 : Nat) (b : Nat) (mNc : Nat → Bool) (mBc : Nat → Bool) : Prop := (b < 2147483648) ∧ ((e1 < 2147483648) ∧ ((e1 < b → (de = false → (n < 21) ∧ (Q (mNc n) mNc mBc)) ∧ (de = true → (1 ≤ n) ∧ ((n - 1 < 21) ∧ (Q (mNc (n - 1)) mNc mBc)))) ∧ (¬ e1 < b → (b < 2147483648) ∧ ((e1 < 2147483648) ∧ ((b = e1 → v_MA_ruleFits_115 mN mB tT aS aE aB pB pS i n d K89 Q bd g e1 b mNc mBc) ∧ (¬ b = e1 → (b < 1000) ∧ ((¬ (tT b) = 47 → K89 bd de g e1 (b + 1) mNc mBc) ∧ ((tT b) = 47 → v_MA_ruleFits_115 mN mB tT aS aE aB pB pS i n d K89 Q bd g e1 b mNc mBc))))))))
def v_MA_ruleFits (mN : Nat → Bool) (mB : Nat → Bool) (tT : Nat → Int32) (aS : Nat → Nat) (aE : Nat → Nat) (aB : Nat → Nat) (pB : Nat → Int32) (pS : Nat → Nat) (i : Nat) (n : Nat) (d : Bool) (K89 : Bool → Bool → Nat → Nat → Nat → (Nat → Bool) → (Nat → Bool) → Prop) (Q : Bool → (Nat → Bool) → (Nat → Bool) → Prop) : Prop := (i < 60) ∧ (((aB i) &&& 8 < 2147483648) ∧ ((¬ (aB i) &&& 8 = 0 → Q false mN mB) ∧ ((aB i) &&& 8 = 0 → ((aB i) &&& 2 < 2147483648) ∧ (((aB i) &&& 2 = 0 → v_MA_ruleFits_30 mN mB tT aS aE aB pB pS i n d K89 Q (aB i) mN mB) ∧ (¬ (aB i) &&& 2 = 0 → (d = true → v_MA_ruleFits_30 mN mB tT aS aE aB pB pS i n d K89 Q (aB i) mN mB) ∧ (d = false → Q false mN mB))))))
theorem t_MA_ruleFits (mN : Nat → Bool) (mB : Nat → Bool) (tT : Nat → Int32) (aS : Nat → Nat) (aE : Nat → Nat) (aB : Nat → Nat) (pB : Nat → Int32) (pS : Nat → Nat) (i : Nat) (n : Nat) (d : Bool) (hr : r_MA_ruleFits mN mB tT aS aE aB pB pS i n d) (K89 : Bool → Bool → Nat → Nat → Nat → (Nat → Bool) → (Nat → Bool) → Prop) (k89 : ∀ bd de g e1 b mNc mBc, v_MA_ruleFits_89 mN mB tT aS aE aB pB pS i n d K89 (p_MA_ruleFits mN mB tT aS aE aB pB pS i n d) bd de g e1 b mNc mBc → K89 bd de g e1 b mNc mBc) : v_MA_ruleFits mN mB tT aS aE aB pB pS i n d K89 (p_MA_ruleFits mN mB tT aS aE aB pB pS i n d) := by
  obtain ⟨h1, h2, h3, h4, h5, h6, h7, h8, h9⟩ := hr
  have b8 := sp_bit8 (aB i) h4
  have b4 := sp_bit4 (aB i) h4
  have b2 := sp_bit2 (aB i) h4
  generalize hans : sp_rf tT (aS i) (aE i) (aB i) pB pS n d = ans
  have hp : ∀ r a1 a2, r = ans → p_MA_ruleFits mN mB tT aS aE aB pB pS i n d r a1 a2 := by
    intro r a1 a2 hr
    rw [p_MA_ruleFits, hans]
    exact hr
  have fin : ∀ bd de g b row rb, b = aE i + 1 → ((de = true ∧ ans = row (n - 1)) ∨ (de = false ∧ ans = row n)) → K89 bd de g (aE i) b row rb := by
    intro bd de g b row rb hb hI
    refine k89 _ _ _ _ _ _ _ ?_
    unfold v_MA_ruleFits_89
    refine ⟨by omega, by omega, fun _ => ⟨fun h => ⟨by omega, hp _ _ _ ?_⟩, fun h => ⟨by omega, by omega, hp _ _ _ ?_⟩⟩, fun h => by omega⟩
    · rcases hI with ⟨q, -⟩ | ⟨-, q⟩
      · rw [h] at q; cases q
      · exact q.symm
    · rcases hI with ⟨-, q⟩ | ⟨q, -⟩
      · exact q.symm
      · rw [h] at q; cases q
  have bound : ∀ dd de g b row rb, aE i + 1 - b ≤ dd → b ≤ aE i → g ≤ b → sp_eon tT (aE i) b = sp_eon tT (aE i) g → (ans = true ↔ sp_hx tT (aE i) n (fun k q j => sp_nf tT pB pS k q j) g row) → K89 true de g (aE i) b row rb := by
    intro dd
    induction dd with
    | zero => intro de g b row rb hd hb; omega
    | succ dd ih =>
      intro de g b row rb hd hb hg he hI
      have at' : (b = aE i ∨ tT b = 47) → v_MA_ruleFits_115 mN mB tT aS aE aB pB pS i n d K89 (p_MA_ruleFits mN mB tT aS aE aB pB pS i n d) true g (aE i) b row rb := by
        intro hs
        have eg : sp_eon tT (aE i) g = b := by rw [← he]; exact sp_eon_at hs
        have hge : g ≤ aE i := Nat.le_trans hg hb
        have plain : sp_deep tT g b = false → v_MA_ruleFits_139 mN mB tT aS aE aB pB pS i n d K89 (p_MA_ruleFits mN mB tT aS aE aB pB pS i n d) true g (aE i) b false row rb := by
          intro hdp
          have hdp' : ¬ sp_deep tT g (sp_eon tT (aE i) g) = true := by rw [eg, hdp]; decide
          unfold v_MA_ruleFits_139 v_MA_ruleFits_182 v_MA_ruleFits_185
          refine ⟨fun _ => ⟨by omega, by omega, fun hbe => ⟨⟨hg, by omega, h6, h7, h8, h9⟩, fun w1 w2 hq => ?_⟩, fun hbe => ⟨⟨hg, by omega, h6, h7, h8, h9⟩, fun w1 w2 hq => ?_⟩⟩, fun h => by cases h⟩
          · obtain ⟨q1, -, q3⟩ := hq
            refine ih _ (b + 1) (b + 1) _ _ (by omega) (by omega) (Nat.le_refl _) rfl ?_
            have := hI.trans (sp_hx_pn hge hdp' (by rw [eg]; exact hbe) (row' := w1) q1 (fun j hj => by rw [eg]; exact q3 rfl j hj))
            rw [eg] at this
            exact this
          · obtain ⟨-, q2, -⟩ := hq
            refine fin _ _ _ _ _ _ (by omega) (Or.inr ⟨rfl, ?_⟩)
            have e1 := hI.trans (sp_hx_pl h6 hge hdp' (by rw [eg]; exact hbe))
            have e2 := q2 (n - 1) (by omega) rfl (by omega)
            rw [show n - 1 + 1 = n by omega] at e2
            rw [eg] at e1
            exact Bool.eq_iff_iff.mpr (e1.trans e2.symm)
        unfold v_MA_ruleFits_115 v_MA_ruleFits_138
        refine ⟨fun h => (by cases h), fun _ => ⟨⟨hg, by omega⟩, fun hdp => plain hdp, fun hdp => ?_⟩⟩
        have hdp' : sp_deep tT g (sp_eon tT (aE i) g) = true := by rw [eg]; exact hdp
        unfold v_MA_ruleFits_139 v_MA_ruleFits_185
        refine ⟨fun h => (by cases h), fun _ => ⟨⟨by omega, by omega⟩, fun w hw => ?_⟩⟩
        by_cases hbe : b = aE i
        · refine fin _ _ _ _ _ _ (by omega) (Or.inl ⟨rfl, ?_⟩)
          exact Bool.eq_iff_iff.mpr (hI.trans (sp_hx_dl h6 hge hdp' (by rw [eg]; exact hbe) hw))
        · refine ih _ (b + 1) (b + 1) _ _ (by omega) (by omega) (Nat.le_refl _) rfl ?_
          have := hI.trans (sp_hx_dn hge hdp' (by rw [eg]; exact hbe) hw)
          rw [eg] at this
          exact this
      refine k89 _ _ _ _ _ _ _ ?_
      unfold v_MA_ruleFits_89
      refine ⟨by omega, by omega, fun h => by omega, fun _ => ⟨by omega, by omega, fun h => at' (Or.inl h), fun h => ⟨by omega, fun h47 => ?_, fun h47 => at' (Or.inr h47)⟩⟩⟩
      exact ih _ g (b + 1) _ _ (by omega) (by omega) (by omega) (by rw [← sp_eon_no (by omega) h47]; exact he) hI
  have free : aB i &&& 4 = 0 → ∀ dd de b row rb, aE i + 1 - b ≤ dd → b ≤ aE i → aS i ≤ b → sp_eon tT (aE i) b = aE i → row (n - 1) = true → ans = sp_nf tT pB pS (aS i) (aE i) (n - 1) → K89 false de (aS i) (aE i) b row rb := by
    intro h40 dd
    induction dd with
    | zero => intro de b row rb hd hb; omega
    | succ dd ih =>
      intro de b row rb hd hb hg he hrow hI
      have at' : b = aE i → v_MA_ruleFits_115 mN mB tT aS aE aB pB pS i n d K89 (p_MA_ruleFits mN mB tT aS aE aB pB pS i n d) false (aS i) (aE i) b row rb := by
        intro hs
        unfold v_MA_ruleFits_115 v_MA_ruleFits_138 v_MA_ruleFits_139 v_MA_ruleFits_182 v_MA_ruleFits_185
        refine ⟨fun _ => ⟨fun _ => ⟨by omega, by omega, fun hbe => absurd hs hbe, fun hbe => ⟨⟨hg, by omega, h6, h7, h8, h9⟩, fun w1 w2 hq => ?_⟩⟩, fun h => by cases h⟩, fun h => by cases h⟩
        obtain ⟨-, q2, -⟩ := hq
        refine fin _ _ _ _ _ _ (by omega) (Or.inr ⟨rfl, ?_⟩)
        have e2 := q2 (n - 1) (by omega) rfl (by omega)
        rw [show n - 1 + 1 = n by omega, hrow, hs] at e2
        rw [hI]
        refine Bool.eq_iff_iff.mpr (Iff.trans ?_ e2.symm)
        exact ⟨fun h => ⟨rfl, h⟩, fun h => h.2⟩
      refine k89 _ _ _ _ _ _ _ ?_
      unfold v_MA_ruleFits_89
      refine ⟨by omega, by omega, fun h => by omega, fun _ => ⟨by omega, by omega, fun h => at' h, fun h => ⟨by omega, fun h47 => ?_, fun h47 => ?_⟩⟩⟩
      · exact ih _ (b + 1) _ _ (by omega) (by omega) (by omega) (by rw [← sp_eon_no (by omega) h47]; exact he) hrow hI
      · rw [sp_eon_at (Or.inr h47)] at he
        exact absurd he h
  have go : ¬ (aB i &&& 8 = 8 ∨ (aB i &&& 2 = 2 ∧ d = false)) → v_MA_ruleFits_30 mN mB tT aS aE aB pB pS i n d K89 (p_MA_ruleFits mN mB tT aS aE aB pB pS i n d) (aB i) mN mB := by
    intro hno
    rw [sp_rf, if_neg hno] at hans
    unfold v_MA_ruleFits_30 v_MA_ruleFits_42 v_MA_ruleFits_63
    refine ⟨by omega, fun h40 => ⟨fun _ => ⟨h6, ⟨by omega, by omega, by omega⟩, fun w hw => ⟨h1, h1, ?_⟩⟩, fun h => by cases h⟩, fun h40 => ⟨fun h => (by cases h), fun _ => ⟨⟨by omega, by omega, by omega⟩, fun w hw => ⟨h1, h1, ?_⟩⟩⟩⟩
    · rw [if_neg (by omega)] at hans
      refine free h40 (aE i + 1) _ (aS i) _ _ (by omega) h2 (Nat.le_refl _) (h5 h40) ?_ hans.symm
      rw [hw (n - 1) (by omega), decide_eq_true rfl]
    · rw [if_pos (by omega)] at hans
      refine bound (aE i + 1) _ (aS i) (aS i) _ _ (by omega) h2 (Nat.le_refl _) rfl ?_
      rw [← hans]
      constructor
      · intro h
        exact ⟨0, Nat.zero_le _, by rw [hw 0 (Nat.zero_le _)]; rfl, h⟩
      · rintro ⟨j, j1, j2, j3⟩
        rw [hw j j1, decide_eq_true_eq] at j2
        rw [← j2]; exact j3
  unfold v_MA_ruleFits
  refine ⟨h1, by omega, fun h8 => hp _ _ _ ?_, fun h8 => ⟨by omega, fun h20 => go ?_, fun h20 => ⟨fun hd => go ?_, fun hd => hp _ _ _ ?_⟩⟩⟩
  · rw [sp_rf, if_pos (Or.inl (by omega))] at hans
    exact hans
  · rintro (q | ⟨q, -⟩) <;> omega
  · rintro (q | ⟨-, q⟩)
    · omega
    · rw [hd] at q; cases q
  · rw [sp_rf, if_pos (Or.inr ⟨by omega, hd⟩)] at hans
    exact hans
end
section
theorem kw_1_59 : Cond.methodLink "IgnoreRules$Matcher" 38 y_MA_isDeep ∈ ig_T := ig_T_mem (List.mem_append_right _ (List.mem_append_left _ (List.mem_of_getElem? (i := 59) rfl))) rfl
theorem kw_1_60 : Cond.static y_MA_isDeep ∈ ig_T := ig_T_mem (List.mem_append_right _ (List.mem_append_left _ (List.mem_of_getElem? (i := 60) rfl))) rfl
theorem kw_1_65 : Cond.methodLink "IgnoreRules$Matcher" 46 y_MA_takeName ∈ ig_T := ig_T_mem (List.mem_append_right _ (List.mem_append_left _ (List.mem_of_getElem? (i := 65) rfl))) rfl
theorem kw_1_67 : Cond.instanceMethod y_MA_takeName ∈ ig_T := ig_T_mem (List.mem_append_right _ (List.mem_append_left _ (List.mem_of_getElem? (i := 67) rfl))) rfl
theorem d_MA_ruleFits_0 : decode b_MA_ruleFits 0 = .ok (.aload_n 1, 1) := by decide +kernel
theorem d_MA_ruleFits_1 : decode b_MA_ruleFits 1 = .ok (.getfield 18, 3) := by decide +kernel
theorem d_MA_ruleFits_4 : decode b_MA_ruleFits 4 = .ok (.iload_n 2, 1) := by decide +kernel
theorem d_MA_ruleFits_5 : decode b_MA_ruleFits 5 = .ok (.iaload, 1) := by decide +kernel
theorem d_MA_ruleFits_6 : decode b_MA_ruleFits 6 = .ok (.istore 6, 2) := by decide +kernel
theorem d_MA_ruleFits_8 : decode b_MA_ruleFits 8 = .ok (.iload 6, 2) := by decide +kernel
theorem d_MA_ruleFits_10 : decode b_MA_ruleFits 10 = .ok (.bipush 8, 2) := by decide +kernel
theorem d_MA_ruleFits_12 : decode b_MA_ruleFits 12 = .ok (.iand, 1) := by decide +kernel
theorem d_MA_ruleFits_13 : decode b_MA_ruleFits 13 = .ok (.ifCond .ne 15, 3) := by decide +kernel
theorem d_MA_ruleFits_16 : decode b_MA_ruleFits 16 = .ok (.iload 6, 2) := by decide +kernel
theorem d_MA_ruleFits_18 : decode b_MA_ruleFits 18 = .ok (.iconst 2, 1) := by decide +kernel
theorem d_MA_ruleFits_19 : decode b_MA_ruleFits 19 = .ok (.iand, 1) := by decide +kernel
theorem d_MA_ruleFits_20 : decode b_MA_ruleFits 20 = .ok (.ifCond .eq 10, 3) := by decide +kernel
theorem d_MA_ruleFits_23 : decode b_MA_ruleFits 23 = .ok (.iload 5, 2) := by decide +kernel
theorem d_MA_ruleFits_25 : decode b_MA_ruleFits 25 = .ok (.ifCond .ne 5, 3) := by decide +kernel
theorem d_MA_ruleFits_28 : decode b_MA_ruleFits 28 = .ok (.iconst 0, 1) := by decide +kernel
theorem d_MA_ruleFits_29 : decode b_MA_ruleFits 29 = .ok (.ireturn, 1) := by decide +kernel
theorem d_MA_ruleFits_30 : decode b_MA_ruleFits 30 = .ok (.iload 6, 2) := by decide +kernel
theorem d_MA_ruleFits_32 : decode b_MA_ruleFits 32 = .ok (.iconst 4, 1) := by decide +kernel
theorem d_MA_ruleFits_33 : decode b_MA_ruleFits 33 = .ok (.iand, 1) := by decide +kernel
theorem d_MA_ruleFits_34 : decode b_MA_ruleFits 34 = .ok (.ifCond .eq 7, 3) := by decide +kernel
theorem d_MA_ruleFits_37 : decode b_MA_ruleFits 37 = .ok (.iconst 1, 1) := by decide +kernel
theorem d_MA_ruleFits_38 : decode b_MA_ruleFits 38 = .ok (.goto 4, 3) := by decide +kernel
theorem d_MA_ruleFits_41 : decode b_MA_ruleFits 41 = .ok (.iconst 0, 1) := by decide +kernel
theorem d_MA_ruleFits_42 : decode b_MA_ruleFits 42 = .ok (.istore 7, 2) := by decide +kernel
theorem d_MA_ruleFits_44 : decode b_MA_ruleFits 44 = .ok (.aload_n 0, 1) := by decide +kernel
theorem d_MA_ruleFits_45 : decode b_MA_ruleFits 45 = .ok (.getfield 9, 3) := by decide +kernel
theorem d_MA_ruleFits_48 : decode b_MA_ruleFits 48 = .ok (.iload 4, 2) := by decide +kernel
theorem d_MA_ruleFits_50 : decode b_MA_ruleFits 50 = .ok (.iload 7, 2) := by decide +kernel
theorem d_MA_ruleFits_52 : decode b_MA_ruleFits 52 = .ok (.ifCond .eq 7, 3) := by decide +kernel
theorem d_MA_ruleFits_55 : decode b_MA_ruleFits 55 = .ok (.iconst 0, 1) := by decide +kernel
theorem d_MA_ruleFits_56 : decode b_MA_ruleFits 56 = .ok (.goto 7, 3) := by decide +kernel
theorem d_MA_ruleFits_59 : decode b_MA_ruleFits 59 = .ok (.iload 4, 2) := by decide +kernel
theorem d_MA_ruleFits_61 : decode b_MA_ruleFits 61 = .ok (.iconst 1, 1) := by decide +kernel
theorem d_MA_ruleFits_62 : decode b_MA_ruleFits 62 = .ok (.isub, 1) := by decide +kernel
theorem d_MA_ruleFits_63 : decode b_MA_ruleFits 63 = .ok (.invokestatic 24, 3) := by decide +kernel
theorem d_MA_ruleFits_66 : decode b_MA_ruleFits 66 = .ok (.iconst 0, 1) := by decide +kernel
theorem d_MA_ruleFits_67 : decode b_MA_ruleFits 67 = .ok (.istore 8, 2) := by decide +kernel
theorem d_MA_ruleFits_69 : decode b_MA_ruleFits 69 = .ok (.aload_n 1, 1) := by decide +kernel
theorem d_MA_ruleFits_70 : decode b_MA_ruleFits 70 = .ok (.getfield 28, 3) := by decide +kernel
theorem d_MA_ruleFits_73 : decode b_MA_ruleFits 73 = .ok (.iload_n 2, 1) := by decide +kernel
theorem d_MA_ruleFits_74 : decode b_MA_ruleFits 74 = .ok (.iaload, 1) := by decide +kernel
theorem d_MA_ruleFits_75 : decode b_MA_ruleFits 75 = .ok (.istore 9, 2) := by decide +kernel
theorem d_MA_ruleFits_77 : decode b_MA_ruleFits 77 = .ok (.aload_n 1, 1) := by decide +kernel
theorem d_MA_ruleFits_78 : decode b_MA_ruleFits 78 = .ok (.getfield 31, 3) := by decide +kernel
theorem d_MA_ruleFits_81 : decode b_MA_ruleFits 81 = .ok (.iload_n 2, 1) := by decide +kernel
theorem d_MA_ruleFits_82 : decode b_MA_ruleFits 82 = .ok (.iaload, 1) := by decide +kernel
theorem d_MA_ruleFits_83 : decode b_MA_ruleFits 83 = .ok (.istore 10, 2) := by decide +kernel
theorem d_MA_ruleFits_85 : decode b_MA_ruleFits 85 = .ok (.iload 9, 2) := by decide +kernel
theorem d_MA_ruleFits_87 : decode b_MA_ruleFits 87 = .ok (.istore 11, 2) := by decide +kernel
theorem d_MA_ruleFits_89 : decode b_MA_ruleFits 89 = .ok (.iload 11, 2) := by decide +kernel
theorem d_MA_ruleFits_91 : decode b_MA_ruleFits 91 = .ok (.iload 10, 2) := by decide +kernel
theorem d_MA_ruleFits_93 : decode b_MA_ruleFits 93 = .ok (.if_icmp .gt 104, 3) := by decide +kernel
theorem d_MA_ruleFits_96 : decode b_MA_ruleFits 96 = .ok (.iload 11, 2) := by decide +kernel
theorem d_MA_ruleFits_98 : decode b_MA_ruleFits 98 = .ok (.iload 10, 2) := by decide +kernel
theorem d_MA_ruleFits_100 : decode b_MA_ruleFits 100 = .ok (.if_icmp .eq 15, 3) := by decide +kernel
theorem d_MA_ruleFits_103 : decode b_MA_ruleFits 103 = .ok (.aload_n 1, 1) := by decide +kernel
theorem d_MA_ruleFits_104 : decode b_MA_ruleFits 104 = .ok (.getfield 34, 3) := by decide +kernel
theorem d_MA_ruleFits_107 : decode b_MA_ruleFits 107 = .ok (.iload 11, 2) := by decide +kernel
theorem d_MA_ruleFits_109 : decode b_MA_ruleFits 109 = .ok (.caload, 1) := by decide +kernel
theorem d_MA_ruleFits_110 : decode b_MA_ruleFits 110 = .ok (.bipush 47, 2) := by decide +kernel
theorem d_MA_ruleFits_112 : decode b_MA_ruleFits 112 = .ok (.if_icmp .ne 79, 3) := by decide +kernel
theorem d_MA_ruleFits_115 : decode b_MA_ruleFits 115 = .ok (.iload 7, 2) := by decide +kernel
theorem d_MA_ruleFits_117 : decode b_MA_ruleFits 117 = .ok (.ifCond .eq 21, 3) := by decide +kernel
theorem d_MA_ruleFits_120 : decode b_MA_ruleFits 120 = .ok (.aload_n 1, 1) := by decide +kernel
theorem d_MA_ruleFits_121 : decode b_MA_ruleFits 121 = .ok (.getfield 34, 3) := by decide +kernel
theorem d_MA_ruleFits_124 : decode b_MA_ruleFits 124 = .ok (.iload 9, 2) := by decide +kernel
theorem d_MA_ruleFits_126 : decode b_MA_ruleFits 126 = .ok (.iload 11, 2) := by decide +kernel
theorem d_MA_ruleFits_128 : decode b_MA_ruleFits 128 = .ok (.invokestatic 38, 3) := by decide +kernel
theorem d_MA_ruleFits_131 : decode b_MA_ruleFits 131 = .ok (.ifCond .eq 7, 3) := by decide +kernel
theorem d_MA_ruleFits_134 : decode b_MA_ruleFits 134 = .ok (.iconst 1, 1) := by decide +kernel
theorem d_MA_ruleFits_135 : decode b_MA_ruleFits 135 = .ok (.goto 4, 3) := by decide +kernel
theorem d_MA_ruleFits_138 : decode b_MA_ruleFits 138 = .ok (.iconst 0, 1) := by decide +kernel
theorem d_MA_ruleFits_139 : decode b_MA_ruleFits 139 = .ok (.istore 8, 2) := by decide +kernel
theorem d_MA_ruleFits_141 : decode b_MA_ruleFits 141 = .ok (.iload 8, 2) := by decide +kernel
theorem d_MA_ruleFits_143 : decode b_MA_ruleFits 143 = .ok (.ifCond .eq 15, 3) := by decide +kernel
theorem d_MA_ruleFits_146 : decode b_MA_ruleFits 146 = .ok (.aload_n 0, 1) := by decide +kernel
theorem d_MA_ruleFits_147 : decode b_MA_ruleFits 147 = .ok (.getfield 9, 3) := by decide +kernel
theorem d_MA_ruleFits_150 : decode b_MA_ruleFits 150 = .ok (.iload 4, 2) := by decide +kernel
theorem d_MA_ruleFits_152 : decode b_MA_ruleFits 152 = .ok (.invokestatic 42, 3) := by decide +kernel
theorem d_MA_ruleFits_155 : decode b_MA_ruleFits 155 = .ok (.goto 30, 3) := by decide +kernel
theorem d_MA_ruleFits_158 : decode b_MA_ruleFits 158 = .ok (.aload_n 0, 1) := by decide +kernel
theorem d_MA_ruleFits_159 : decode b_MA_ruleFits 159 = .ok (.aload_n 1, 1) := by decide +kernel
theorem d_MA_ruleFits_160 : decode b_MA_ruleFits 160 = .ok (.getfield 34, 3) := by decide +kernel
theorem d_MA_ruleFits_163 : decode b_MA_ruleFits 163 = .ok (.iload 9, 2) := by decide +kernel
theorem d_MA_ruleFits_165 : decode b_MA_ruleFits 165 = .ok (.iload 11, 2) := by decide +kernel
theorem d_MA_ruleFits_167 : decode b_MA_ruleFits 167 = .ok (.aload_n 3, 1) := by decide +kernel
theorem d_MA_ruleFits_168 : decode b_MA_ruleFits 168 = .ok (.iload 4, 2) := by decide +kernel
theorem d_MA_ruleFits_170 : decode b_MA_ruleFits 170 = .ok (.iload 11, 2) := by decide +kernel
theorem d_MA_ruleFits_172 : decode b_MA_ruleFits 172 = .ok (.iload 10, 2) := by decide +kernel
theorem d_MA_ruleFits_174 : decode b_MA_ruleFits 174 = .ok (.if_icmp .ne 7, 3) := by decide +kernel
theorem d_MA_ruleFits_177 : decode b_MA_ruleFits 177 = .ok (.iconst 1, 1) := by decide +kernel
theorem d_MA_ruleFits_178 : decode b_MA_ruleFits 178 = .ok (.goto 4, 3) := by decide +kernel
theorem d_MA_ruleFits_181 : decode b_MA_ruleFits 181 = .ok (.iconst 0, 1) := by decide +kernel
theorem d_MA_ruleFits_182 : decode b_MA_ruleFits 182 = .ok (.invokevirtual 46, 3) := by decide +kernel
theorem d_MA_ruleFits_185 : decode b_MA_ruleFits 185 = .ok (.iload 11, 2) := by decide +kernel
theorem d_MA_ruleFits_187 : decode b_MA_ruleFits 187 = .ok (.iconst 1, 1) := by decide +kernel
theorem d_MA_ruleFits_188 : decode b_MA_ruleFits 188 = .ok (.iadd, 1) := by decide +kernel
theorem d_MA_ruleFits_189 : decode b_MA_ruleFits 189 = .ok (.istore 9, 2) := by decide +kernel
theorem d_MA_ruleFits_191 : decode b_MA_ruleFits 191 = .ok (.iinc 11 1, 3) := by decide +kernel
theorem d_MA_ruleFits_194 : decode b_MA_ruleFits 194 = .ok (.goto (-105), 3) := by decide +kernel
theorem d_MA_ruleFits_197 : decode b_MA_ruleFits 197 = .ok (.aload_n 0, 1) := by decide +kernel
theorem d_MA_ruleFits_198 : decode b_MA_ruleFits 198 = .ok (.getfield 9, 3) := by decide +kernel
theorem d_MA_ruleFits_201 : decode b_MA_ruleFits 201 = .ok (.iload 8, 2) := by decide +kernel
theorem d_MA_ruleFits_203 : decode b_MA_ruleFits 203 = .ok (.ifCond .eq 10, 3) := by decide +kernel
theorem d_MA_ruleFits_206 : decode b_MA_ruleFits 206 = .ok (.iload 4, 2) := by decide +kernel
theorem d_MA_ruleFits_208 : decode b_MA_ruleFits 208 = .ok (.iconst 1, 1) := by decide +kernel
theorem d_MA_ruleFits_209 : decode b_MA_ruleFits 209 = .ok (.isub, 1) := by decide +kernel
theorem d_MA_ruleFits_210 : decode b_MA_ruleFits 210 = .ok (.goto 5, 3) := by decide +kernel
theorem d_MA_ruleFits_213 : decode b_MA_ruleFits 213 = .ok (.iload 4, 2) := by decide +kernel
theorem d_MA_ruleFits_215 : decode b_MA_ruleFits 215 = .ok (.baload, 1) := by decide +kernel
theorem d_MA_ruleFits_216 : decode b_MA_ruleFits 216 = .ok (.ireturn, 1) := by decide +kernel
abbrev w_MA_ruleFits : List Cond := Cond.code y_MA_ruleFits b_MA_ruleFits 12 (some .boolean) :: ig_T
theorem g_MA_ruleFits : GoodIn ig_T w_MA_ruleFits := ig_T_good (ig_T_mem (List.mem_append_right _ (List.mem_append_left _ (List.mem_of_getElem? (i := 55) rfl))) rfl)
set_option maxHeartbeats 4000000 in
set_option maxRecDepth 100000 in
theorem c_MA_ruleFits (l : Launch) (dC : Nat → ClassId) (dI : Nat → Nat → Nat) (cC cI cZ cL : ClassId) (m0 mn mb q0 qt qs qe qb ql p0 pb ps : Nat) (nC : Int32) (pC : Int32) (mN : Nat → Bool) (mB : Nat → Bool) (tT : Nat → Int32) (aS : Nat → Nat) (aE : Nat → Nat) (aB : Nat → Nat) (pB : Nat → Int32) (pS : Nat → Nat) (i : Nat) (n : Nat) (d : Bool) (sz : Nat) (hr : r_MA_ruleFits mN mB tT aS aE aB pB pS i n d) : Met l y_MA_ruleFits w_MA_ruleFits ({ frames := 3, cells := 0, slots := 0, locals := 87 }) (ig_Pc (dC, dI) ig_cl0 [(cC, .char), (cI, .int), (cZ, .boolean), (cL, .long)] [.ref m0, .ref q0, .int (nI i), .ref p0, .int (nI n), .int (bI d)] [(m0, .inr (ciMA, [.ref mn, .ref mb])), (mn, .inl (cZ, 21, .inl (fun j => bI (mN j)))), (mb, .inl (cZ, 121, .inl (fun j => bI (mB j)))), (q0, .inr (ciRL, [.ref qt, .ref qs, .ref qe, .ref qb, .ref ql, .int nC])), (qt, .inl (cC, 1000, .inl tT)), (qs, .inl (cI, 60, .inl (fun j => nI (aS j)))), (qe, .inl (cI, 60, .inl (fun j => nI (aE j)))), (qb, .inl (cI, 60, .inl (fun j => nI (aB j)))), (p0, .inr (ciPA, [.ref pb, .ref ps, .int pC])), (pb, .inl (cC, 120, .inl pB)), (ps, .inl (cI, 21, .inl (fun j => nI (pS j))))] sz) (va_Qi (fun (r : Int32) (u : (Nat → Bool) × (Nat → Bool)) => ∃ zr : Bool, r = bI zr ∧ p_MA_ruleFits mN mB tT aS aE aB pB pS i n d zr u.1 u.2) (fun u t => va_P (dC, dI) ig_cl0 ((fun (u : (Nat → Bool) × (Nat → Bool)) => [(m0, .inr (ciMA, [.ref mn, .ref mb])), (mn, .inl (cZ, 21, .inl (fun j => bI (u.1 j)))), (mb, .inl (cZ, 121, .inl (fun j => bI (u.2 j)))), (q0, .inr (ciRL, [.ref qt, .ref qs, .ref qe, .ref qb, .ref ql, .int nC])), (qt, .inl (cC, 1000, .inl tT)), (qs, .inl (cI, 60, .inl (fun j => nI (aS j)))), (qe, .inl (cI, 60, .inl (fun j => nI (aE j)))), (qb, .inl (cI, 60, .inl (fun j => nI (aB j)))), (p0, .inr (ciPA, [.ref pb, .ref ps, .int pC])), (pb, .inl (cC, 120, .inl pB)), (ps, .inl (cI, 21, .inl (fun j => nI (pS j))))]) u) t.heap ∧ va_D (va_A [(m0, .inr (ciMA, [.ref mn, .ref mb])), (mn, .inl (cZ, 21, .inl (fun j => bI (mN j)))), (mb, .inl (cZ, 121, .inl (fun j => bI (mB j)))), (q0, .inr (ciRL, [.ref qt, .ref qs, .ref qe, .ref qb, .ref ql, .int nC])), (qt, .inl (cC, 1000, .inl tT)), (qs, .inl (cI, 60, .inl (fun j => nI (aS j)))), (qe, .inl (cI, 60, .inl (fun j => nI (aE j)))), (qb, .inl (cI, 60, .inl (fun j => nI (aB j)))), (p0, .inr (ciPA, [.ref pb, .ref ps, .int pC])), (pb, .inl (cC, 120, .inl pB)), (ps, .inl (cI, 21, .inl (fun j => nI (pS j))))] sz) ((fun (u : (Nat → Bool) × (Nat → Bool)) => [(m0, .inr (ciMA, [.ref mn, .ref mb])), (mn, .inl (cZ, 21, .inl (fun j => bI (u.1 j)))), (mb, .inl (cZ, 121, .inl (fun j => bI (u.2 j)))), (q0, .inr (ciRL, [.ref qt, .ref qs, .ref qe, .ref qb, .ref ql, .int nC])), (qt, .inl (cC, 1000, .inl tT)), (qs, .inl (cI, 60, .inl (fun j => nI (aS j)))), (qe, .inl (cI, 60, .inl (fun j => nI (aE j)))), (qb, .inl (cI, 60, .inl (fun j => nI (aB j)))), (p0, .inr (ciPA, [.ref pb, .ref ps, .int pC])), (pb, .inl (cC, 120, .inl pB)), (ps, .inl (cI, 21, .inl (fun j => nI (pS j))))]) u)) (va_A [(m0, .inr (ciMA, [.ref mn, .ref mb])), (mn, .inl (cZ, 21, .inl (fun j => bI (mN j)))), (mb, .inl (cZ, 121, .inl (fun j => bI (mB j)))), (q0, .inr (ciRL, [.ref qt, .ref qs, .ref qe, .ref qb, .ref ql, .int nC])), (qt, .inl (cC, 1000, .inl tT)), (qs, .inl (cI, 60, .inl (fun j => nI (aS j)))), (qe, .inl (cI, 60, .inl (fun j => nI (aE j)))), (qb, .inl (cI, 60, .inl (fun j => nI (aB j)))), (p0, .inr (ciPA, [.ref pb, .ref ps, .int pC])), (pb, .inl (cC, 120, .inl pB)), (ps, .inl (cI, 21, .inl (fun j => nI (pS j))))] sz)) 0 0 (va_A [(m0, .inr (ciMA, [.ref mn, .ref mb])), (mn, .inl (cZ, 21, .inl (fun j => bI (mN j)))), (mb, .inl (cZ, 121, .inl (fun j => bI (mB j)))), (q0, .inr (ciRL, [.ref qt, .ref qs, .ref qe, .ref qb, .ref ql, .int nC])), (qt, .inl (cC, 1000, .inl tT)), (qs, .inl (cI, 60, .inl (fun j => nI (aS j)))), (qe, .inl (cI, 60, .inl (fun j => nI (aE j)))), (qb, .inl (cI, 60, .inl (fun j => nI (aB j)))), (p0, .inr (ciPA, [.ref pb, .ref ps, .int pC])), (pb, .inl (cC, 120, .inl pB)), (ps, .inl (cI, 21, .inl (fun j => nI (pS j))))] sz) := by
  refine ig_metI (fun (r : Int32) (u : (Nat → Bool) × (Nat → Bool)) => ∃ zr : Bool, r = bI zr ∧ p_MA_ruleFits mN mB tT aS aE aB pB pS i n d zr u.1 u.2) (fun (u : (Nat → Bool) × (Nat → Bool)) => [(m0, .inr (ciMA, [.ref mn, .ref mb])), (mn, .inl (cZ, 21, .inl (fun j => bI (u.1 j)))), (mb, .inl (cZ, 121, .inl (fun j => bI (u.2 j)))), (q0, .inr (ciRL, [.ref qt, .ref qs, .ref qe, .ref qb, .ref ql, .int nC])), (qt, .inl (cC, 1000, .inl tT)), (qs, .inl (cI, 60, .inl (fun j => nI (aS j)))), (qe, .inl (cI, 60, .inl (fun j => nI (aE j)))), (qb, .inl (cI, 60, .inl (fun j => nI (aB j)))), (p0, .inr (ciPA, [.ref pb, .ref ps, .int pC])), (pb, .inl (cC, 120, .inl pB)), (ps, .inl (cI, 21, .inl (fun j => nI (pS j))))]) (by decide) rfl (Nat.le_of_ble_eq_true rfl) rfl (by rintro r u ⟨b, rfl, -⟩; exact bI_ret b) ?_
  intro zp ze zs zm zargs zbelow zmeth zc zA zQ hx hb hml hown hts hK hN hA hret
  obtain ⟨K89, hK89⟩ : ∃ K : Bool → Bool → Nat → Nat → Nat → (Nat → Bool) → (Nat → Bool) → Prop, K = fun (bd : Bool) (de : Bool) (g : Nat) (e1 : Nat) (b : Nat) (mNc : Nat → Bool) (mBc : Nat → Bool) => ig_W zp l ze ({ frames := 3, cells := 0, slots := 0, locals := 87 }) zs zm zargs zbelow zmeth zc (dC, dI) ig_cl0 zA zs.heap 12 0 0 zQ 89 [(0, .ref m0), (1, .ref q0), (3, .ref p0), (4, .int (nI n)), (7, .int (bI bd)), (8, .int (bI de)), (9, .int (nI g)), (10, .int (nI e1)), (11, .int (nI b))] [] [(m0, .inr (ciMA, [.ref mn, .ref mb])), (mn, .inl (cZ, 21, .inl (fun j => bI (mNc j)))), (mb, .inl (cZ, 121, .inl (fun j => bI (mBc j)))), (q0, .inr (ciRL, [.ref qt, .ref qs, .ref qe, .ref qb, .ref ql, .int nC])), (qt, .inl (cC, 1000, .inl tT)), (qs, .inl (cI, 60, .inl (fun j => nI (aS j)))), (qe, .inl (cI, 60, .inl (fun j => nI (aE j)))), (qb, .inl (cI, 60, .inl (fun j => nI (aB j)))), (p0, .inr (ciPA, [.ref pb, .ref ps, .int pC])), (pb, .inl (cC, 120, .inl pB)), (ps, .inl (cI, 21, .inl (fun j => nI (pS j))))] := ⟨_, rfl⟩
  have j63 : ∀ (bd : Bool) (s0 : Nat) (s1 : Nat) (mNc : Nat → Bool) (mBc : Nat → Bool), v_MA_ruleFits_63 mN mB tT aS aE aB pB pS i n d K89 (p_MA_ruleFits mN mB tT aS aE aB pB pS i n d) bd s0 s1 mNc mBc → ig_W zp l ze ({ frames := 3, cells := 0, slots := 0, locals := 87 }) zs zm zargs zbelow zmeth zc (dC, dI) ig_cl0 zA zs.heap 12 0 0 zQ 63 [(0, .ref m0), (1, .ref q0), (2, .int (nI i)), (3, .ref p0), (4, .int (nI n)), (7, .int (bI bd))] [.int (nI s0), .int (nI s1), .ref mn] [(m0, .inr (ciMA, [.ref mn, .ref mb])), (mn, .inl (cZ, 21, .inl (fun j => bI (mNc j)))), (mb, .inl (cZ, 121, .inl (fun j => bI (mBc j)))), (q0, .inr (ciRL, [.ref qt, .ref qs, .ref qe, .ref qb, .ref ql, .int nC])), (qt, .inl (cC, 1000, .inl tT)), (qs, .inl (cI, 60, .inl (fun j => nI (aS j)))), (qe, .inl (cI, 60, .inl (fun j => nI (aE j)))), (qb, .inl (cI, 60, .inl (fun j => nI (aB j)))), (p0, .inr (ciPA, [.ref pb, .ref ps, .int pC])), (pb, .inl (cC, 120, .inl pB)), (ps, .inl (cI, 21, .inl (fun j => nI (pS j))))] := by
    intro bd s0 s1 mNc mBc hv
    unfold v_MA_ruleFits_63 at hv
    obtain ⟨hc, hv⟩ := hv
    refine ig_cSv (As := [.ref mn, .int (nI s1), .int (nI s0)]) (rest := []) (wr := [(m0, .inr (ciMA, [.ref mn, .ref mb])), (mb, .inl (cZ, 121, .inl (fun j => bI (mBc j)))), (q0, .inr (ciRL, [.ref qt, .ref qs, .ref qe, .ref qb, .ref ql, .int nC])), (qt, .inl (cC, 1000, .inl tT)), (qs, .inl (cI, 60, .inl (fun j => nI (aS j)))), (qe, .inl (cI, 60, .inl (fun j => nI (aE j)))), (qb, .inl (cI, 60, .inl (fun j => nI (aB j)))), (p0, .inr (ciPA, [.ref pb, .ref ps, .int pC])), (pb, .inl (cC, 120, .inl pB)), (ps, .inl (cI, 21, .inl (fun j => nI (pS j))))]) (ws' := fun u => [(m0, .inr (ciMA, [.ref mn, .ref mb])), (mn, .inl (cZ, 21, .inl (fun j => bI (u j)))), (mb, .inl (cZ, 121, .inl (fun j => bI (mBc j)))), (q0, .inr (ciRL, [.ref qt, .ref qs, .ref qe, .ref qb, .ref ql, .int nC])), (qt, .inl (cC, 1000, .inl tT)), (qs, .inl (cI, 60, .inl (fun j => nI (aS j)))), (qe, .inl (cI, 60, .inl (fun j => nI (aE j)))), (qb, .inl (cI, 60, .inl (fun j => nI (aB j)))), (p0, .inr (ciPA, [.ref pb, .ref ps, .int pC])), (pb, .inl (cC, 120, .inl pB)), (ps, .inl (cI, 21, .inl (fun j => nI (pS j))))]) hx hb hml hown hts hK hN hA (fun sz => c_MA_startRow l dC dI cC cI cZ cL mn mNc 21 s1 s0 sz hc) ⟨callB_of 3 hts g_MA_startRow rfl rfl rfl (hts _ kw_0_4) (hts _ kw_1_56) (by decide +kernel) (by decide), hts _ kw_1_57⟩ rfl rfl (Nat.le_of_ble_eq_true rfl) d_MA_ruleFits_63 (by decide) [1] [0, 2, 3, 4, 5, 6, 7, 8, 9, 10] [0, 10, 1, 2, 3, 4, 5, 6, 7, 8, 9] rfl rfl (by decide) (by decide) (by decide) (fun _ => rfl) (fun _ => rfl) (fun u hr => ?_)
    obtain ⟨zw1, hu⟩ : ∃ z, z = u := ⟨_, rfl⟩
    subst hu
    unfold p_MA_startRow at hr
    have hv := hv zw1 hr
    refine ig_iconst (v := 0) hx hb d_MA_ruleFits_66 (by decide) ?_
    refine ig_istore (lv' := [(8, .int 0), (0, .ref m0), (1, .ref q0), (2, .int (nI i)), (3, .ref p0), (4, .int (nI n)), (7, .int (bI bd))]) hx hb d_MA_ruleFits_67 (by decide) rfl ?_
    refine ig_aload_n hx hb 2 d_MA_ruleFits_69 rfl rfl ?_
    refine ig_getN hx hb hts in_RL hown hK 3 rfl rfl 1 (by decide) (va_Nw.use rfl (fk_2 hN)) (fun _ h => h) rfl d_MA_ruleFits_70 ?_
    refine ig_iload_n hx hb 3 d_MA_ruleFits_73 rfl rfl ?_
    obtain ⟨hc, hv⟩ := hv
    refine ig_iald (x := (nI (aS i))) hx hb hK 5 1 rfl rfl i rfl hc (by decide) rfl d_MA_ruleFits_74 ?_
    refine ig_istore (lv' := [(9, .int (nI (aS i))), (8, .int 0), (0, .ref m0), (1, .ref q0), (2, .int (nI i)), (3, .ref p0), (4, .int (nI n)), (7, .int (bI bd))]) hx hb d_MA_ruleFits_75 (by decide) rfl ?_
    refine ig_aload_n hx hb 3 d_MA_ruleFits_77 rfl rfl ?_
    refine ig_getN hx hb hts in_RL hown hK 3 rfl rfl 2 (by decide) (va_Nw.use rfl (fk_3 hN)) (fun _ h => h) rfl d_MA_ruleFits_78 ?_
    refine ig_iload_n hx hb 4 d_MA_ruleFits_81 rfl rfl ?_
    obtain ⟨hc, hv⟩ := hv
    refine ig_iald (x := (nI (aE i))) hx hb hK 6 1 rfl rfl i rfl hc (by decide) rfl d_MA_ruleFits_82 ?_
    refine ig_istore (lv' := [(10, .int (nI (aE i))), (9, .int (nI (aS i))), (8, .int 0), (0, .ref m0), (1, .ref q0), (2, .int (nI i)), (3, .ref p0), (4, .int (nI n)), (7, .int (bI bd))]) hx hb d_MA_ruleFits_83 (by decide) rfl ?_
    refine ig_iload hx hb 1 d_MA_ruleFits_85 rfl ?_
    refine ig_istore (lv' := [(11, .int (nI (aS i))), (10, .int (nI (aE i))), (9, .int (nI (aS i))), (8, .int 0), (0, .ref m0), (1, .ref q0), (2, .int (nI i)), (3, .ref p0), (4, .int (nI n)), (7, .int (bI bd))]) hx hb d_MA_ruleFits_87 (by decide) rfl ?_
    refine ig_lv (lv' := [(0, .ref m0), (1, .ref q0), (3, .ref p0), (4, .int (nI n)), (7, .int (bI bd)), (8, .int 0), (9, .int (nI (aS i))), (10, .int (nI (aE i))), (11, .int (nI (aS i)))]) [4, 5, 7, 8, 9, 3, 2, 1, 0] rfl ?_
    rw [hK89] at hv
    exact hv
  have j42 : ∀ (s0 : Bool) (mNc : Nat → Bool) (mBc : Nat → Bool), v_MA_ruleFits_42 mN mB tT aS aE aB pB pS i n d K89 (p_MA_ruleFits mN mB tT aS aE aB pB pS i n d) s0 mNc mBc → ig_W zp l ze ({ frames := 3, cells := 0, slots := 0, locals := 87 }) zs zm zargs zbelow zmeth zc (dC, dI) ig_cl0 zA zs.heap 12 0 0 zQ 42 [(0, .ref m0), (1, .ref q0), (2, .int (nI i)), (3, .ref p0), (4, .int (nI n))] [.int (bI s0)] [(m0, .inr (ciMA, [.ref mn, .ref mb])), (mn, .inl (cZ, 21, .inl (fun j => bI (mNc j)))), (mb, .inl (cZ, 121, .inl (fun j => bI (mBc j)))), (q0, .inr (ciRL, [.ref qt, .ref qs, .ref qe, .ref qb, .ref ql, .int nC])), (qt, .inl (cC, 1000, .inl tT)), (qs, .inl (cI, 60, .inl (fun j => nI (aS j)))), (qe, .inl (cI, 60, .inl (fun j => nI (aE j)))), (qb, .inl (cI, 60, .inl (fun j => nI (aB j)))), (p0, .inr (ciPA, [.ref pb, .ref ps, .int pC])), (pb, .inl (cC, 120, .inl pB)), (ps, .inl (cI, 21, .inl (fun j => nI (pS j))))] := by
    intro s0 mNc mBc hv
    unfold v_MA_ruleFits_42 at hv
    refine ig_istore (lv' := [(7, .int (bI s0)), (0, .ref m0), (1, .ref q0), (2, .int (nI i)), (3, .ref p0), (4, .int (nI n))]) hx hb d_MA_ruleFits_42 (by decide) rfl ?_
    refine ig_aload_n hx hb 1 d_MA_ruleFits_44 rfl rfl ?_
    refine ig_get hx hb hts in_MA hown hK 0 rfl rfl 0 (by decide) (hts _ kw_0_81) (fun _ h => h) rfl d_MA_ruleFits_45 ?_
    refine ig_iload hx hb 5 d_MA_ruleFits_48 rfl ?_
    refine ig_iload hx hb 0 d_MA_ruleFits_50 rfl ?_
    refine ig_if_eqB (tgt := 59) hx hb s0 rfl d_MA_ruleFits_52 (by decide) (fun h => ?_) (fun h => ?_)
    · have hv := hv.1 h
      refine ig_iload hx hb 5 d_MA_ruleFits_59 rfl ?_
      refine ig_iconst (v := 1) hx hb d_MA_ruleFits_61 (by decide) ?_
      obtain ⟨hc, hv⟩ := hv
      refine ig_isubN hx hb n 1 rfl rfl hc d_MA_ruleFits_62 ?_
      refine ig_lv (lv' := [(0, .ref m0), (1, .ref q0), (2, .int (nI i)), (3, .ref p0), (4, .int (nI n)), (7, .int (bI s0))]) [1, 2, 3, 4, 5, 0] rfl ?_
      exact j63 _ _ _ _ _ hv
    · have hv := hv.2 h
      refine ig_iconst (v := 0) hx hb d_MA_ruleFits_55 (by decide) ?_
      refine ig_goto (tgt := 63) hx hb d_MA_ruleFits_56 (by decide) ?_
      refine ig_lv (lv' := [(0, .ref m0), (1, .ref q0), (2, .int (nI i)), (3, .ref p0), (4, .int (nI n)), (7, .int (bI s0))]) [1, 2, 3, 4, 5, 0] rfl ?_
      exact j63 _ _ _ _ _ hv
  have j30 : ∀ (bi : Nat) (mNc : Nat → Bool) (mBc : Nat → Bool), v_MA_ruleFits_30 mN mB tT aS aE aB pB pS i n d K89 (p_MA_ruleFits mN mB tT aS aE aB pB pS i n d) bi mNc mBc → ig_W zp l ze ({ frames := 3, cells := 0, slots := 0, locals := 87 }) zs zm zargs zbelow zmeth zc (dC, dI) ig_cl0 zA zs.heap 12 0 0 zQ 30 [(0, .ref m0), (1, .ref q0), (2, .int (nI i)), (3, .ref p0), (4, .int (nI n)), (6, .int (nI bi))] [] [(m0, .inr (ciMA, [.ref mn, .ref mb])), (mn, .inl (cZ, 21, .inl (fun j => bI (mNc j)))), (mb, .inl (cZ, 121, .inl (fun j => bI (mBc j)))), (q0, .inr (ciRL, [.ref qt, .ref qs, .ref qe, .ref qb, .ref ql, .int nC])), (qt, .inl (cC, 1000, .inl tT)), (qs, .inl (cI, 60, .inl (fun j => nI (aS j)))), (qe, .inl (cI, 60, .inl (fun j => nI (aE j)))), (qb, .inl (cI, 60, .inl (fun j => nI (aB j)))), (p0, .inr (ciPA, [.ref pb, .ref ps, .int pC])), (pb, .inl (cC, 120, .inl pB)), (ps, .inl (cI, 21, .inl (fun j => nI (pS j))))] := by
    intro bi mNc mBc hv
    unfold v_MA_ruleFits_30 at hv
    refine ig_iload hx hb 5 d_MA_ruleFits_30 rfl ?_
    refine ig_iconst (v := 4) hx hb d_MA_ruleFits_32 (by decide) ?_
    refine ig_iandN hx hb bi 4 rfl rfl d_MA_ruleFits_33 ?_
    obtain ⟨h1, hv⟩ := hv
    refine ig_if_eqN (tgt := 41) hx hb (bi &&& 4) rfl d_MA_ruleFits_34 (by decide) h1 (fun h => ?_) (fun h => ?_)
    · have hv := hv.1 h
      refine ig_iconst (v := 0) hx hb d_MA_ruleFits_41 (by decide) ?_
      refine ig_lv (lv' := [(0, .ref m0), (1, .ref q0), (2, .int (nI i)), (3, .ref p0), (4, .int (nI n))]) [0, 1, 2, 3, 4] rfl ?_
      exact j42 _ _ _ hv
    · have hv := hv.2 h
      refine ig_iconst (v := 1) hx hb d_MA_ruleFits_37 (by decide) ?_
      refine ig_goto (tgt := 42) hx hb d_MA_ruleFits_38 (by decide) ?_
      refine ig_lv (lv' := [(0, .ref m0), (1, .ref q0), (2, .int (nI i)), (3, .ref p0), (4, .int (nI n))]) [0, 1, 2, 3, 4] rfl ?_
      exact j42 _ _ _ hv
  have j185 : ∀ (bd : Bool) (de : Bool) (e1 : Nat) (b : Nat) (mNc : Nat → Bool) (mBc : Nat → Bool), v_MA_ruleFits_185 mN mB tT aS aE aB pB pS i n d K89 (p_MA_ruleFits mN mB tT aS aE aB pB pS i n d) bd de e1 b mNc mBc → ig_W zp l ze ({ frames := 3, cells := 0, slots := 0, locals := 87 }) zs zm zargs zbelow zmeth zc (dC, dI) ig_cl0 zA zs.heap 12 0 0 zQ 185 [(0, .ref m0), (1, .ref q0), (3, .ref p0), (4, .int (nI n)), (7, .int (bI bd)), (8, .int (bI de)), (10, .int (nI e1)), (11, .int (nI b))] [] [(m0, .inr (ciMA, [.ref mn, .ref mb])), (mn, .inl (cZ, 21, .inl (fun j => bI (mNc j)))), (mb, .inl (cZ, 121, .inl (fun j => bI (mBc j)))), (q0, .inr (ciRL, [.ref qt, .ref qs, .ref qe, .ref qb, .ref ql, .int nC])), (qt, .inl (cC, 1000, .inl tT)), (qs, .inl (cI, 60, .inl (fun j => nI (aS j)))), (qe, .inl (cI, 60, .inl (fun j => nI (aE j)))), (qb, .inl (cI, 60, .inl (fun j => nI (aB j)))), (p0, .inr (ciPA, [.ref pb, .ref ps, .int pC])), (pb, .inl (cC, 120, .inl pB)), (ps, .inl (cI, 21, .inl (fun j => nI (pS j))))] := by
    intro bd de e1 b mNc mBc hv
    unfold v_MA_ruleFits_185 at hv
    refine ig_iload hx hb 7 d_MA_ruleFits_185 rfl ?_
    refine ig_iconst (v := 1) hx hb d_MA_ruleFits_187 (by decide) ?_
    refine ig_iaddN hx hb b 1 rfl rfl d_MA_ruleFits_188 ?_
    refine ig_istore (lv' := [(9, .int (nI (b + 1))), (0, .ref m0), (1, .ref q0), (3, .ref p0), (4, .int (nI n)), (7, .int (bI bd)), (8, .int (bI de)), (10, .int (nI e1)), (11, .int (nI b))]) hx hb d_MA_ruleFits_189 (by decide) rfl ?_
    refine ig_iinc (v := (nI (b + 1))) (lv' := [(11, .int (nI (b + 1))), (9, .int (nI (b + 1))), (0, .ref m0), (1, .ref q0), (3, .ref p0), (4, .int (nI n)), (7, .int (bI bd)), (8, .int (bI de)), (10, .int (nI e1))]) hx hb 8 d_MA_ruleFits_191 rfl (ig_inc b 1 (by decide)) (by decide) rfl ?_
    refine ig_goto (tgt := 89) hx hb d_MA_ruleFits_194 (by decide) ?_
    refine ig_lv (lv' := [(0, .ref m0), (1, .ref q0), (3, .ref p0), (4, .int (nI n)), (7, .int (bI bd)), (8, .int (bI de)), (9, .int (nI (b + 1))), (10, .int (nI e1)), (11, .int (nI (b + 1)))]) [2, 3, 4, 5, 6, 7, 1, 8, 0] rfl ?_
    rw [hK89] at hv
    exact hv
  have j182 : ∀ (bd : Bool) (de : Bool) (e1 : Nat) (b : Nat) (s0 : Bool) (s1 : Nat) (s3 : Nat) (s4 : Nat) (mNc : Nat → Bool) (mBc : Nat → Bool), v_MA_ruleFits_182 mN mB tT aS aE aB pB pS i n d K89 (p_MA_ruleFits mN mB tT aS aE aB pB pS i n d) bd de e1 b s0 s1 s3 s4 mNc mBc → ig_W zp l ze ({ frames := 3, cells := 0, slots := 0, locals := 87 }) zs zm zargs zbelow zmeth zc (dC, dI) ig_cl0 zA zs.heap 12 0 0 zQ 182 [(0, .ref m0), (1, .ref q0), (3, .ref p0), (4, .int (nI n)), (7, .int (bI bd)), (8, .int (bI de)), (10, .int (nI e1)), (11, .int (nI b))] [.int (bI s0), .int (nI s1), .ref p0, .int (nI s3), .int (nI s4), .ref qt, .ref m0] [(m0, .inr (ciMA, [.ref mn, .ref mb])), (mn, .inl (cZ, 21, .inl (fun j => bI (mNc j)))), (mb, .inl (cZ, 121, .inl (fun j => bI (mBc j)))), (q0, .inr (ciRL, [.ref qt, .ref qs, .ref qe, .ref qb, .ref ql, .int nC])), (qt, .inl (cC, 1000, .inl tT)), (qs, .inl (cI, 60, .inl (fun j => nI (aS j)))), (qe, .inl (cI, 60, .inl (fun j => nI (aE j)))), (qb, .inl (cI, 60, .inl (fun j => nI (aB j)))), (p0, .inr (ciPA, [.ref pb, .ref ps, .int pC])), (pb, .inl (cC, 120, .inl pB)), (ps, .inl (cI, 21, .inl (fun j => nI (pS j))))] := by
    intro bd de e1 b s0 s1 s3 s4 mNc mBc hv
    unfold v_MA_ruleFits_182 at hv
    obtain ⟨hc, hv⟩ := hv
    refine ig_cVv (As := [.ref qt, .int (nI s4), .int (nI s3), .ref p0, .int (nI s1), .int (bI s0)]) (rest := []) (wr := [(q0, .inr (ciRL, [.ref qt, .ref qs, .ref qe, .ref qb, .ref ql, .int nC])), (qs, .inl (cI, 60, .inl (fun j => nI (aS j)))), (qe, .inl (cI, 60, .inl (fun j => nI (aE j)))), (qb, .inl (cI, 60, .inl (fun j => nI (aB j))))]) (ws' := fun u => [(m0, .inr (ciMA, [.ref mn, .ref mb])), (mn, .inl (cZ, 21, .inl (fun j => bI (u.1 j)))), (mb, .inl (cZ, 121, .inl (fun j => bI (u.2 j)))), (q0, .inr (ciRL, [.ref qt, .ref qs, .ref qe, .ref qb, .ref ql, .int nC])), (qt, .inl (cC, 1000, .inl tT)), (qs, .inl (cI, 60, .inl (fun j => nI (aS j)))), (qe, .inl (cI, 60, .inl (fun j => nI (aE j)))), (qb, .inl (cI, 60, .inl (fun j => nI (aB j)))), (p0, .inr (ciPA, [.ref pb, .ref ps, .int pC])), (pb, .inl (cC, 120, .inl pB)), (ps, .inl (cI, 21, .inl (fun j => nI (pS j))))]) hx hb hml hown hts hK hN hA (fun sz => c_MA_takeName l dC dI cC cI cZ cL m0 mn mb qt p0 pb ps pC mNc mBc tT pB pS s4 s3 s1 s0 sz hc) ⟨callB_of 6 hts g_MA_takeName rfl rfl rfl (hts _ kw_0_4) (hts _ kw_1_65) (by decide +kernel) (by decide), (hts _ kw_1_67), (hts _ ks_MA_takeName)⟩ rfl rfl (Nat.le_of_ble_eq_true rfl) d_MA_ruleFits_182 (by decide) 0 rfl rfl [0, 1, 2, 4, 8, 9, 10] [3, 5, 6, 7] [4, 5, 6, 0, 7, 1, 2, 3, 8, 9, 10] rfl rfl (by decide) (by decide) (by decide) (fun _ => rfl) (fun _ => rfl) (fun u hr => ?_)
    obtain ⟨mN3, mB4⟩ := u
    unfold p_MA_takeName at hr
    have hv := hv mN3 mB4 hr
    refine ig_lv (lv' := [(0, .ref m0), (1, .ref q0), (3, .ref p0), (4, .int (nI n)), (7, .int (bI bd)), (8, .int (bI de)), (10, .int (nI e1)), (11, .int (nI b))]) [0, 1, 2, 3, 4, 5, 6, 7] rfl ?_
    exact j185 _ _ _ _ _ _ hv
  have j139 : ∀ (bd : Bool) (g : Nat) (e1 : Nat) (b : Nat) (s0 : Bool) (mNc : Nat → Bool) (mBc : Nat → Bool), v_MA_ruleFits_139 mN mB tT aS aE aB pB pS i n d K89 (p_MA_ruleFits mN mB tT aS aE aB pB pS i n d) bd g e1 b s0 mNc mBc → ig_W zp l ze ({ frames := 3, cells := 0, slots := 0, locals := 87 }) zs zm zargs zbelow zmeth zc (dC, dI) ig_cl0 zA zs.heap 12 0 0 zQ 139 [(0, .ref m0), (1, .ref q0), (3, .ref p0), (4, .int (nI n)), (7, .int (bI bd)), (9, .int (nI g)), (10, .int (nI e1)), (11, .int (nI b))] [.int (bI s0)] [(m0, .inr (ciMA, [.ref mn, .ref mb])), (mn, .inl (cZ, 21, .inl (fun j => bI (mNc j)))), (mb, .inl (cZ, 121, .inl (fun j => bI (mBc j)))), (q0, .inr (ciRL, [.ref qt, .ref qs, .ref qe, .ref qb, .ref ql, .int nC])), (qt, .inl (cC, 1000, .inl tT)), (qs, .inl (cI, 60, .inl (fun j => nI (aS j)))), (qe, .inl (cI, 60, .inl (fun j => nI (aE j)))), (qb, .inl (cI, 60, .inl (fun j => nI (aB j)))), (p0, .inr (ciPA, [.ref pb, .ref ps, .int pC])), (pb, .inl (cC, 120, .inl pB)), (ps, .inl (cI, 21, .inl (fun j => nI (pS j))))] := by
    intro bd g e1 b s0 mNc mBc hv
    unfold v_MA_ruleFits_139 at hv
    refine ig_istore (lv' := [(8, .int (bI s0)), (0, .ref m0), (1, .ref q0), (3, .ref p0), (4, .int (nI n)), (7, .int (bI bd)), (9, .int (nI g)), (10, .int (nI e1)), (11, .int (nI b))]) hx hb d_MA_ruleFits_139 (by decide) rfl ?_
    refine ig_iload hx hb 0 d_MA_ruleFits_141 rfl ?_
    refine ig_if_eqB (tgt := 158) hx hb s0 rfl d_MA_ruleFits_143 (by decide) (fun h => ?_) (fun h => ?_)
    · have hv := hv.1 h
      refine ig_aload_n hx hb 1 d_MA_ruleFits_158 rfl rfl ?_
      refine ig_aload_n hx hb 2 d_MA_ruleFits_159 rfl rfl ?_
      refine ig_getN hx hb hts in_RL hown hK 3 rfl rfl 0 (by decide) (va_Nw.use rfl (fk_0 hN)) (fun _ h => h) rfl d_MA_ruleFits_160 ?_
      refine ig_iload hx hb 6 d_MA_ruleFits_163 rfl ?_
      refine ig_iload hx hb 8 d_MA_ruleFits_165 rfl ?_
      refine ig_aload_n hx hb 3 d_MA_ruleFits_167 rfl rfl ?_
      refine ig_iload hx hb 4 d_MA_ruleFits_168 rfl ?_
      refine ig_iload hx hb 8 d_MA_ruleFits_170 rfl ?_
      refine ig_iload hx hb 7 d_MA_ruleFits_172 rfl ?_
      obtain ⟨h1, hv⟩ := hv
      obtain ⟨h2, hv⟩ := hv
      refine ig_icmp_neN (tgt := 181) hx hb b e1 rfl rfl d_MA_ruleFits_174 (by decide) h1 h2 (fun h => ?_) (fun h => ?_)
      · have hv := hv.1 h
        refine ig_iconst (v := 0) hx hb d_MA_ruleFits_181 (by decide) ?_
        refine ig_lv (lv' := [(0, .ref m0), (1, .ref q0), (3, .ref p0), (4, .int (nI n)), (7, .int (bI bd)), (8, .int (bI s0)), (10, .int (nI e1)), (11, .int (nI b))]) [1, 2, 3, 4, 5, 0, 7, 8] rfl ?_
        exact j182 _ _ _ _ _ _ _ _ _ _ hv
      · have hv := hv.2 h
        refine ig_iconst (v := 1) hx hb d_MA_ruleFits_177 (by decide) ?_
        refine ig_goto (tgt := 182) hx hb d_MA_ruleFits_178 (by decide) ?_
        refine ig_lv (lv' := [(0, .ref m0), (1, .ref q0), (3, .ref p0), (4, .int (nI n)), (7, .int (bI bd)), (8, .int (bI s0)), (10, .int (nI e1)), (11, .int (nI b))]) [1, 2, 3, 4, 5, 0, 7, 8] rfl ?_
        exact j182 _ _ _ _ _ _ _ _ _ _ hv
    · have hv := hv.2 h
      refine ig_aload_n hx hb 1 d_MA_ruleFits_146 rfl rfl ?_
      refine ig_get hx hb hts in_MA hown hK 0 rfl rfl 0 (by decide) (hts _ kw_0_81) (fun _ h => h) rfl d_MA_ruleFits_147 ?_
      refine ig_iload hx hb 4 d_MA_ruleFits_150 rfl ?_
      obtain ⟨hc, hv⟩ := hv
      refine ig_cSv (As := [.ref mn, .int (nI n)]) (rest := []) (wr := [(m0, .inr (ciMA, [.ref mn, .ref mb])), (mb, .inl (cZ, 121, .inl (fun j => bI (mBc j)))), (q0, .inr (ciRL, [.ref qt, .ref qs, .ref qe, .ref qb, .ref ql, .int nC])), (qt, .inl (cC, 1000, .inl tT)), (qs, .inl (cI, 60, .inl (fun j => nI (aS j)))), (qe, .inl (cI, 60, .inl (fun j => nI (aE j)))), (qb, .inl (cI, 60, .inl (fun j => nI (aB j)))), (p0, .inr (ciPA, [.ref pb, .ref ps, .int pC])), (pb, .inl (cC, 120, .inl pB)), (ps, .inl (cI, 21, .inl (fun j => nI (pS j))))]) (ws' := fun u => [(m0, .inr (ciMA, [.ref mn, .ref mb])), (mn, .inl (cZ, 21, .inl (fun j => bI (u j)))), (mb, .inl (cZ, 121, .inl (fun j => bI (mBc j)))), (q0, .inr (ciRL, [.ref qt, .ref qs, .ref qe, .ref qb, .ref ql, .int nC])), (qt, .inl (cC, 1000, .inl tT)), (qs, .inl (cI, 60, .inl (fun j => nI (aS j)))), (qe, .inl (cI, 60, .inl (fun j => nI (aE j)))), (qb, .inl (cI, 60, .inl (fun j => nI (aB j)))), (p0, .inr (ciPA, [.ref pb, .ref ps, .int pC])), (pb, .inl (cC, 120, .inl pB)), (ps, .inl (cI, 21, .inl (fun j => nI (pS j))))]) hx hb hml hown hts hK hN hA (fun sz => c_MA_spread l dC dI cC cI cZ cL mn mNc 21 n sz hc) ⟨callB_of 2 hts g_MA_spread rfl rfl rfl (hts _ kw_0_4) (hts _ kw_1_62) (by decide +kernel) (by decide), hts _ kw_1_63⟩ rfl rfl (Nat.le_of_ble_eq_true rfl) d_MA_ruleFits_152 (by decide) [1] [0, 2, 3, 4, 5, 6, 7, 8, 9, 10] [0, 10, 1, 2, 3, 4, 5, 6, 7, 8, 9] rfl rfl (by decide) (by decide) (by decide) (fun _ => rfl) (fun _ => rfl) (fun u hr => ?_)
      obtain ⟨zw2, hu⟩ : ∃ z, z = u := ⟨_, rfl⟩
      subst hu
      unfold p_MA_spread at hr
      have hv := hv zw2 hr
      refine ig_goto (tgt := 185) hx hb d_MA_ruleFits_155 (by decide) ?_
      refine ig_lv (lv' := [(0, .ref m0), (1, .ref q0), (3, .ref p0), (4, .int (nI n)), (7, .int (bI bd)), (8, .int (bI s0)), (10, .int (nI e1)), (11, .int (nI b))]) [1, 2, 3, 4, 5, 0, 7, 8] rfl ?_
      exact j185 _ _ _ _ _ _ hv
  have j138 : ∀ (bd : Bool) (g : Nat) (e1 : Nat) (b : Nat) (mNc : Nat → Bool) (mBc : Nat → Bool), v_MA_ruleFits_138 mN mB tT aS aE aB pB pS i n d K89 (p_MA_ruleFits mN mB tT aS aE aB pB pS i n d) bd g e1 b mNc mBc → ig_W zp l ze ({ frames := 3, cells := 0, slots := 0, locals := 87 }) zs zm zargs zbelow zmeth zc (dC, dI) ig_cl0 zA zs.heap 12 0 0 zQ 138 [(0, .ref m0), (1, .ref q0), (3, .ref p0), (4, .int (nI n)), (7, .int (bI bd)), (9, .int (nI g)), (10, .int (nI e1)), (11, .int (nI b))] [] [(m0, .inr (ciMA, [.ref mn, .ref mb])), (mn, .inl (cZ, 21, .inl (fun j => bI (mNc j)))), (mb, .inl (cZ, 121, .inl (fun j => bI (mBc j)))), (q0, .inr (ciRL, [.ref qt, .ref qs, .ref qe, .ref qb, .ref ql, .int nC])), (qt, .inl (cC, 1000, .inl tT)), (qs, .inl (cI, 60, .inl (fun j => nI (aS j)))), (qe, .inl (cI, 60, .inl (fun j => nI (aE j)))), (qb, .inl (cI, 60, .inl (fun j => nI (aB j)))), (p0, .inr (ciPA, [.ref pb, .ref ps, .int pC])), (pb, .inl (cC, 120, .inl pB)), (ps, .inl (cI, 21, .inl (fun j => nI (pS j))))] := by
    intro bd g e1 b mNc mBc hv
    unfold v_MA_ruleFits_138 at hv
    refine ig_iconst (v := 0) hx hb d_MA_ruleFits_138 (by decide) ?_
    refine ig_lv (lv' := [(0, .ref m0), (1, .ref q0), (3, .ref p0), (4, .int (nI n)), (7, .int (bI bd)), (9, .int (nI g)), (10, .int (nI e1)), (11, .int (nI b))]) [0, 1, 2, 3, 4, 5, 6, 7] rfl ?_
    exact j139 _ _ _ _ _ _ _ hv
  have j115 : ∀ (bd : Bool) (g : Nat) (e1 : Nat) (b : Nat) (mNc : Nat → Bool) (mBc : Nat → Bool), v_MA_ruleFits_115 mN mB tT aS aE aB pB pS i n d K89 (p_MA_ruleFits mN mB tT aS aE aB pB pS i n d) bd g e1 b mNc mBc → ig_W zp l ze ({ frames := 3, cells := 0, slots := 0, locals := 87 }) zs zm zargs zbelow zmeth zc (dC, dI) ig_cl0 zA zs.heap 12 0 0 zQ 115 [(0, .ref m0), (1, .ref q0), (3, .ref p0), (4, .int (nI n)), (7, .int (bI bd)), (9, .int (nI g)), (10, .int (nI e1)), (11, .int (nI b))] [] [(m0, .inr (ciMA, [.ref mn, .ref mb])), (mn, .inl (cZ, 21, .inl (fun j => bI (mNc j)))), (mb, .inl (cZ, 121, .inl (fun j => bI (mBc j)))), (q0, .inr (ciRL, [.ref qt, .ref qs, .ref qe, .ref qb, .ref ql, .int nC])), (qt, .inl (cC, 1000, .inl tT)), (qs, .inl (cI, 60, .inl (fun j => nI (aS j)))), (qe, .inl (cI, 60, .inl (fun j => nI (aE j)))), (qb, .inl (cI, 60, .inl (fun j => nI (aB j)))), (p0, .inr (ciPA, [.ref pb, .ref ps, .int pC])), (pb, .inl (cC, 120, .inl pB)), (ps, .inl (cI, 21, .inl (fun j => nI (pS j))))] := by
    intro bd g e1 b mNc mBc hv
    unfold v_MA_ruleFits_115 at hv
    refine ig_iload hx hb 4 d_MA_ruleFits_115 rfl ?_
    refine ig_if_eqB (tgt := 138) hx hb bd rfl d_MA_ruleFits_117 (by decide) (fun h => ?_) (fun h => ?_)
    · have hv := hv.1 h
      refine ig_lv (lv' := [(0, .ref m0), (1, .ref q0), (3, .ref p0), (4, .int (nI n)), (7, .int (bI bd)), (9, .int (nI g)), (10, .int (nI e1)), (11, .int (nI b))]) [0, 1, 2, 3, 4, 5, 6, 7] rfl ?_
      exact j138 _ _ _ _ _ _ hv
    · have hv := hv.2 h
      refine ig_aload_n hx hb 1 d_MA_ruleFits_120 rfl rfl ?_
      refine ig_getN hx hb hts in_RL hown hK 3 rfl rfl 0 (by decide) (va_Nw.use rfl (fk_0 hN)) (fun _ h => h) rfl d_MA_ruleFits_121 ?_
      refine ig_iload hx hb 5 d_MA_ruleFits_124 rfl ?_
      refine ig_iload hx hb 7 d_MA_ruleFits_126 rfl ?_
      obtain ⟨hc, hv⟩ := hv
      refine ig_cSi (As := [.ref qt, .int (nI g), .int (nI b)]) (rest := []) (wr := [(m0, .inr (ciMA, [.ref mn, .ref mb])), (mn, .inl (cZ, 21, .inl (fun j => bI (mNc j)))), (mb, .inl (cZ, 121, .inl (fun j => bI (mBc j)))), (q0, .inr (ciRL, [.ref qt, .ref qs, .ref qe, .ref qb, .ref ql, .int nC])), (qs, .inl (cI, 60, .inl (fun j => nI (aS j)))), (qe, .inl (cI, 60, .inl (fun j => nI (aE j)))), (qb, .inl (cI, 60, .inl (fun j => nI (aB j)))), (p0, .inr (ciPA, [.ref pb, .ref ps, .int pC])), (pb, .inl (cC, 120, .inl pB)), (ps, .inl (cI, 21, .inl (fun j => nI (pS j))))]) (ws' := fun u => [(m0, .inr (ciMA, [.ref mn, .ref mb])), (mn, .inl (cZ, 21, .inl (fun j => bI (mNc j)))), (mb, .inl (cZ, 121, .inl (fun j => bI (mBc j)))), (q0, .inr (ciRL, [.ref qt, .ref qs, .ref qe, .ref qb, .ref ql, .int nC])), (qt, .inl (cC, 1000, .inl tT)), (qs, .inl (cI, 60, .inl (fun j => nI (aS j)))), (qe, .inl (cI, 60, .inl (fun j => nI (aE j)))), (qb, .inl (cI, 60, .inl (fun j => nI (aB j)))), (p0, .inr (ciPA, [.ref pb, .ref ps, .int pC])), (pb, .inl (cC, 120, .inl pB)), (ps, .inl (cI, 21, .inl (fun j => nI (pS j))))]) hx hb hml hown hts hK hN hA (fun sz => c_MA_isDeep l dC dI cC cI cZ cL qt tT g b sz hc) ⟨callB_of 3 hts g_MA_isDeep rfl rfl rfl (hts _ kw_0_4) (hts _ kw_1_59) (by decide +kernel) (by decide), hts _ kw_1_60⟩ rfl rfl (Nat.le_of_ble_eq_true rfl) d_MA_ruleFits_128 (by decide) [4] [0, 1, 2, 3, 5, 6, 7, 8, 9, 10] [0, 1, 2, 3, 10, 4, 5, 6, 7, 8, 9] rfl rfl (by decide) (by decide) (by decide) (fun _ => rfl) (fun _ => rfl) (fun r u hr => ?_)
      obtain ⟨rr, rfl, hr⟩ := hr
      unfold p_MA_isDeep at hr
      subst hr
      refine ig_if_eqB (tgt := 138) hx hb (sp_deep tT g b) rfl d_MA_ruleFits_131 (by decide) (fun h => ?_) (fun h => ?_)
      · have hv := hv.1 h
        refine ig_lv (lv' := [(0, .ref m0), (1, .ref q0), (3, .ref p0), (4, .int (nI n)), (7, .int (bI bd)), (9, .int (nI g)), (10, .int (nI e1)), (11, .int (nI b))]) [0, 1, 2, 3, 4, 5, 6, 7] rfl ?_
        exact j138 _ _ _ _ _ _ hv
      · have hv := hv.2 h
        refine ig_iconst (v := 1) hx hb d_MA_ruleFits_134 (by decide) ?_
        refine ig_goto (tgt := 139) hx hb d_MA_ruleFits_135 (by decide) ?_
        refine ig_lv (lv' := [(0, .ref m0), (1, .ref q0), (3, .ref p0), (4, .int (nI n)), (7, .int (bI bd)), (9, .int (nI g)), (10, .int (nI e1)), (11, .int (nI b))]) [0, 1, 2, 3, 4, 5, 6, 7] rfl ?_
        exact j139 _ _ _ _ _ _ _ hv
  have k89 : ∀ (bd : Bool) (de : Bool) (g : Nat) (e1 : Nat) (b : Nat) (mNc : Nat → Bool) (mBc : Nat → Bool), v_MA_ruleFits_89 mN mB tT aS aE aB pB pS i n d K89 (p_MA_ruleFits mN mB tT aS aE aB pB pS i n d) bd de g e1 b mNc mBc → K89 bd de g e1 b mNc mBc := by
    intro bd de g e1 b mNc mBc hv
    unfold v_MA_ruleFits_89 at hv
    rw [hK89]
    show ig_W zp l ze ({ frames := 3, cells := 0, slots := 0, locals := 87 }) zs zm zargs zbelow zmeth zc (dC, dI) ig_cl0 zA zs.heap 12 0 0 zQ 89 [(0, .ref m0), (1, .ref q0), (3, .ref p0), (4, .int (nI n)), (7, .int (bI bd)), (8, .int (bI de)), (9, .int (nI g)), (10, .int (nI e1)), (11, .int (nI b))] [] [(m0, .inr (ciMA, [.ref mn, .ref mb])), (mn, .inl (cZ, 21, .inl (fun j => bI (mNc j)))), (mb, .inl (cZ, 121, .inl (fun j => bI (mBc j)))), (q0, .inr (ciRL, [.ref qt, .ref qs, .ref qe, .ref qb, .ref ql, .int nC])), (qt, .inl (cC, 1000, .inl tT)), (qs, .inl (cI, 60, .inl (fun j => nI (aS j)))), (qe, .inl (cI, 60, .inl (fun j => nI (aE j)))), (qb, .inl (cI, 60, .inl (fun j => nI (aB j)))), (p0, .inr (ciPA, [.ref pb, .ref ps, .int pC])), (pb, .inl (cC, 120, .inl pB)), (ps, .inl (cI, 21, .inl (fun j => nI (pS j))))]
    refine ig_iload hx hb 8 d_MA_ruleFits_89 rfl ?_
    refine ig_iload hx hb 7 d_MA_ruleFits_91 rfl ?_
    obtain ⟨h1, hv⟩ := hv
    obtain ⟨h2, hv⟩ := hv
    refine ig_icmp_gtN (tgt := 197) hx hb b e1 rfl rfl d_MA_ruleFits_93 (by decide) h1 h2 (fun h => ?_) (fun h => ?_)
    · have hv := hv.1 h
      refine ig_aload_n hx hb 0 d_MA_ruleFits_197 rfl rfl ?_
      refine ig_get hx hb hts in_MA hown hK 0 rfl rfl 0 (by decide) (hts _ kw_0_81) (fun _ h => h) rfl d_MA_ruleFits_198 ?_
      refine ig_iload hx hb 5 d_MA_ruleFits_201 rfl ?_
      refine ig_if_eqB (tgt := 213) hx hb de rfl d_MA_ruleFits_203 (by decide) (fun h => ?_) (fun h => ?_)
      · have hv := hv.1 h
        refine ig_iload hx hb 3 d_MA_ruleFits_213 rfl ?_
        obtain ⟨hc, hv⟩ := hv
        refine ig_zald (x := (bI (mNc n))) hx hb hK 1 2 rfl rfl n rfl hc (by decide) rfl d_MA_ruleFits_215 ?_
        exact hret 216 _ (bI (mNc n)) (mNc, mBc) d_MA_ruleFits_216 ⟨mNc n, rfl, hv⟩
      · have hv := hv.2 h
        refine ig_iload hx hb 3 d_MA_ruleFits_206 rfl ?_
        refine ig_iconst (v := 1) hx hb d_MA_ruleFits_208 (by decide) ?_
        obtain ⟨hc, hv⟩ := hv
        refine ig_isubN hx hb n 1 rfl rfl hc d_MA_ruleFits_209 ?_
        refine ig_goto (tgt := 215) hx hb d_MA_ruleFits_210 (by decide) ?_
        obtain ⟨hc, hv⟩ := hv
        refine ig_zald (x := (bI (mNc (n - 1)))) hx hb hK 1 2 rfl rfl (n - 1) rfl hc (by decide) rfl d_MA_ruleFits_215 ?_
        exact hret 216 _ (bI (mNc (n - 1))) (mNc, mBc) d_MA_ruleFits_216 ⟨mNc (n - 1), rfl, hv⟩
    · have hv := hv.2 h
      refine ig_iload hx hb 8 d_MA_ruleFits_96 rfl ?_
      refine ig_iload hx hb 7 d_MA_ruleFits_98 rfl ?_
      obtain ⟨h1, hv⟩ := hv
      obtain ⟨h2, hv⟩ := hv
      refine ig_icmp_eqN (tgt := 115) hx hb b e1 rfl rfl d_MA_ruleFits_100 (by decide) h1 h2 (fun h => ?_) (fun h => ?_)
      · have hv := hv.1 h
        refine ig_lv (lv' := [(0, .ref m0), (1, .ref q0), (3, .ref p0), (4, .int (nI n)), (7, .int (bI bd)), (9, .int (nI g)), (10, .int (nI e1)), (11, .int (nI b))]) [0, 1, 2, 3, 4, 6, 7, 8] rfl ?_
        exact j115 _ _ _ _ _ _ hv
      · have hv := hv.2 h
        refine ig_aload_n hx hb 1 d_MA_ruleFits_103 rfl rfl ?_
        refine ig_getN hx hb hts in_RL hown hK 3 rfl rfl 0 (by decide) (va_Nw.use rfl (fk_0 hN)) (fun _ h => h) rfl d_MA_ruleFits_104 ?_
        refine ig_iload hx hb 8 d_MA_ruleFits_107 rfl ?_
        obtain ⟨hc, hv⟩ := hv
        refine ig_cald (x := (tT b)) hx hb hK 4 0 rfl rfl b rfl hc (by decide) rfl d_MA_ruleFits_109 ?_
        refine ig_bipush (v := 47) hx hb d_MA_ruleFits_110 (by decide) ?_
        refine ig_icmp_ne (tgt := 191) hx hb d_MA_ruleFits_112 (by decide) (fun h => ?_) (fun h => ?_)
        · have hv := hv.1 h
          refine ig_iinc (v := (nI (b + 1))) (lv' := [(11, .int (nI (b + 1))), (0, .ref m0), (1, .ref q0), (3, .ref p0), (4, .int (nI n)), (7, .int (bI bd)), (8, .int (bI de)), (9, .int (nI g)), (10, .int (nI e1))]) hx hb 8 d_MA_ruleFits_191 rfl (ig_inc b 1 (by decide)) (by decide) rfl ?_
          refine ig_goto (tgt := 89) hx hb d_MA_ruleFits_194 (by decide) ?_
          refine ig_lv (lv' := [(0, .ref m0), (1, .ref q0), (3, .ref p0), (4, .int (nI n)), (7, .int (bI bd)), (8, .int (bI de)), (9, .int (nI g)), (10, .int (nI e1)), (11, .int (nI (b + 1)))]) [1, 2, 3, 4, 5, 6, 7, 8, 0] rfl ?_
          rw [hK89] at hv
          exact hv
        · have hv := hv.2 h
          refine ig_lv (lv' := [(0, .ref m0), (1, .ref q0), (3, .ref p0), (4, .int (nI n)), (7, .int (bI bd)), (9, .int (nI g)), (10, .int (nI e1)), (11, .int (nI b))]) [0, 1, 2, 3, 4, 6, 7, 8] rfl ?_
          exact j115 _ _ _ _ _ _ hv
  have hv := t_MA_ruleFits mN mB tT aS aE aB pB pS i n d hr K89 k89
  unfold v_MA_ruleFits at hv
  refine ig_aload_n hx hb 1 d_MA_ruleFits_0 rfl rfl ?_
  refine ig_getN hx hb hts in_RL hown hK 3 rfl rfl 3 (by decide) (va_Nw.use rfl (fk_4 hN)) (fun _ h => h) rfl d_MA_ruleFits_1 ?_
  refine ig_iload_n hx hb 2 d_MA_ruleFits_4 rfl rfl ?_
  obtain ⟨hc, hv⟩ := hv
  refine ig_iald (x := (nI (aB i))) hx hb hK 7 1 rfl rfl i rfl hc (by decide) rfl d_MA_ruleFits_5 ?_
  refine ig_istore (lv' := [(6, .int (nI (aB i))), (0, .ref m0), (1, .ref q0), (2, .int (nI i)), (3, .ref p0), (4, .int (nI n)), (5, .int (bI d))]) hx hb d_MA_ruleFits_6 (by decide) rfl ?_
  refine ig_iload hx hb 0 d_MA_ruleFits_8 rfl ?_
  refine ig_bipush (v := 8) hx hb d_MA_ruleFits_10 (by decide) ?_
  refine ig_iandN hx hb (aB i) 8 rfl rfl d_MA_ruleFits_12 ?_
  obtain ⟨h1, hv⟩ := hv
  refine ig_if_neN (tgt := 28) hx hb ((aB i) &&& 8) rfl d_MA_ruleFits_13 (by decide) h1 (fun h => ?_) (fun h => ?_)
  · have hv := hv.1 h
    refine ig_iconst (v := 0) hx hb d_MA_ruleFits_28 (by decide) ?_
    exact hret 29 _ 0 (mN, mB) d_MA_ruleFits_29 ⟨false, rfl, hv⟩
  · have hv := hv.2 h
    refine ig_iload hx hb 0 d_MA_ruleFits_16 rfl ?_
    refine ig_iconst (v := 2) hx hb d_MA_ruleFits_18 (by decide) ?_
    refine ig_iandN hx hb (aB i) 2 rfl rfl d_MA_ruleFits_19 ?_
    obtain ⟨h1, hv⟩ := hv
    refine ig_if_eqN (tgt := 30) hx hb ((aB i) &&& 2) rfl d_MA_ruleFits_20 (by decide) h1 (fun h => ?_) (fun h => ?_)
    · have hv := hv.1 h
      refine ig_lv (lv' := [(0, .ref m0), (1, .ref q0), (2, .int (nI i)), (3, .ref p0), (4, .int (nI n)), (6, .int (nI (aB i)))]) [1, 2, 3, 4, 5, 0] rfl ?_
      exact j30 _ _ _ hv
    · have hv := hv.2 h
      refine ig_iload hx hb 6 d_MA_ruleFits_23 rfl ?_
      refine ig_if_neB (tgt := 30) hx hb d rfl d_MA_ruleFits_25 (by decide) (fun h => ?_) (fun h => ?_)
      · have hv := hv.1 h
        refine ig_lv (lv' := [(0, .ref m0), (1, .ref q0), (2, .int (nI i)), (3, .ref p0), (4, .int (nI n)), (6, .int (nI (aB i)))]) [1, 2, 3, 4, 5, 0] rfl ?_
        exact j30 _ _ _ hv
      · have hv := hv.2 h
        refine ig_iconst (v := 0) hx hb d_MA_ruleFits_28 (by decide) ?_
        exact hret 29 _ 0 (mN, mB) d_MA_ruleFits_29 ⟨false, rfl, hv⟩
end
section
def r_IR_lastFitting (mN : Nat → Bool) (mB : Nat → Bool) (tT : Nat → Int32) (aS : Nat → Nat) (aE : Nat → Nat) (aB : Nat → Nat) (pB : Nat → Int32) (pS : Nat → Nat) (nC : Nat) (n : Nat) (d : Bool) : Prop := sp_rok tT aS aE aB nC ∧ 1 ≤ n ∧ n ≤ 20 ∧ (∀ j, j < n → pS j + 1 ≤ pS (j + 1)) ∧ pS n ≤ 121
def p_IR_lastFitting (mN : Nat → Bool) (mB : Nat → Bool) (tT : Nat → Int32) (aS : Nat → Nat) (aE : Nat → Nat) (aB : Nat → Nat) (pB : Nat → Int32) (pS : Nat → Nat) (nC : Nat) (n : Nat) (d : Bool) (r : Int32) (mN' : Nat → Bool) (mB' : Nat → Bool) : Prop := r = (sp_lfit tT aS aE aB pB pS nC n d)
def v_IR_lastFitting_10 (mN : Nat → Bool) (mB : Nat → Bool) (tT : Nat → Int32) (aS : Nat → Nat) (aE : Nat → Nat) (aB : Nat → Nat) (pB : Nat → Int32) (pS : Nat → Nat) (nC : Nat) (n : Nat) (d : Bool) (K10 : Nat → (Nat → Bool) → (Nat → Bool) → Prop) (Q : Int32 → (Nat → Bool) → (Nat → Bool) → Prop) (k : Nat) (mNc : Nat → Bool) (mBc : Nat → Bool) : Prop := (k < 2147483648) ∧ ((k = 0 → Q (-1) mNc mBc) ∧ (∀ j1 : Nat, k = j1 + 1 → (r_MA_ruleFits mNc mBc tT aS aE aB pB pS j1 n d) ∧ ((∀ (mN2 : Nat → Bool) (mB3 : Nat → Bool), (sp_rf tT (aS j1) (aE j1) (aB j1) pB pS n d = false → K10 j1 mN2 mB3) ∧ (sp_rf tT (aS j1) (aE j1) (aB j1) pB pS n d = true → Q (nI j1) mN2 mB3)))))
def v_IR_lastFitting (mN : Nat → Bool) (mB : Nat → Bool) (tT : Nat → Int32) (aS : Nat → Nat) (aE : Nat → Nat) (aB : Nat → Nat) (pB : Nat → Int32) (pS : Nat → Nat) (nC : Nat) (n : Nat) (d : Bool) (K10 : Nat → (Nat → Bool) → (Nat → Bool) → Prop) (Q : Int32 → (Nat → Bool) → (Nat → Bool) → Prop) : Prop := K10 nC mN mB
theorem t_IR_lastFitting (mN : Nat → Bool) (mB : Nat → Bool) (tT : Nat → Int32) (aS : Nat → Nat) (aE : Nat → Nat) (aB : Nat → Nat) (pB : Nat → Int32) (pS : Nat → Nat) (nC : Nat) (n : Nat) (d : Bool) (hr : r_IR_lastFitting mN mB tT aS aE aB pB pS nC n d) (K10 : Nat → (Nat → Bool) → (Nat → Bool) → Prop) (k10 : ∀ k mNc mBc, v_IR_lastFitting_10 mN mB tT aS aE aB pB pS nC n d K10 (p_IR_lastFitting mN mB tT aS aE aB pB pS nC n d) k mNc mBc → K10 k mNc mBc) : v_IR_lastFitting mN mB tT aS aE aB pB pS nC n d K10 (p_IR_lastFitting mN mB tT aS aE aB pB pS nC n d) := by
  obtain ⟨⟨h1, h2⟩, h3, h4, h5, h6⟩ := hr
  have key : ∀ k rn rb, k ≤ nC → sp_lastf (fun k => sp_rf tT (aS k) (aE k) (aB k) pB pS n d) k = sp_lfit tT aS aE aB pB pS nC n d → K10 k rn rb := by
    intro k
    induction k with
    | zero =>
      intro rn rb hk hI
      refine k10 0 rn rb ?_
      unfold v_IR_lastFitting_10
      refine ⟨by omega, fun _ => hI, fun j hj => by omega⟩
    | succ k ih =>
      intro rn rb hk hI
      refine k10 (k + 1) rn rb ?_
      unfold v_IR_lastFitting_10
      refine ⟨by omega, fun h => by omega, fun j hj => ?_⟩
      obtain rfl : k = j := by omega
      obtain ⟨g1, g2, g3, g4⟩ := h2 k (by omega)
      rw [sp_lastf] at hI
      refine ⟨⟨by omega, g1, g2, g3, g4, h3, h4, h5, h6⟩, fun rn' rb' => ⟨fun h => ?_, fun h => ?_⟩⟩
      · rw [if_neg (by rw [h]; decide)] at hI
        exact ih rn' rb' (by omega) hI
      · rw [if_pos h] at hI
        exact hI
  exact key nC mN mB (Nat.le_refl _) rfl

def r_IR_leavesOut (aB : Nat → Nat) (x : Int32) : Prop := x = -1 ∨ ∃ k, k < 60 ∧ aB k < 16 ∧ x = nI k
def p_IR_leavesOut (aB : Nat → Nat) (x : Int32) (r : Bool) : Prop := r = (sp_lo aB x)
def v_IR_leavesOut (aB : Nat → Nat) (x : Int32) (Q : Bool → Prop) : Prop := (x = (-1) → Q false) ∧ (¬ x = (-1) → ∃ k1 : Nat, x = nI k1 ∧ ((k1 < 60) ∧ (((aB k1) &&& 1 < 2147483648) ∧ ((¬ (aB k1) &&& 1 = 0 → Q false) ∧ ((aB k1) &&& 1 = 0 → Q true)))))
theorem t_IR_leavesOut (aB : Nat → Nat) (x : Int32) (hr : r_IR_leavesOut aB x)  : v_IR_leavesOut aB x (p_IR_leavesOut aB x) := by
  unfold v_IR_leavesOut
  refine ⟨fun h => ?_, fun h => ?_⟩
  · rw [p_IR_leavesOut, sp_lo, if_pos h]
  · rcases hr with hr | ⟨k, h1, h2, h3⟩
    · exact absurd hr h
    · have b1 := sp_bit1 (aB k) h2
      have e : x.toNatClampNeg = k := by rw [h3]; exact ig_cl (by omega)
      refine ⟨k, h3, h1, by omega, fun h4 => ?_, fun h4 => ?_⟩
      · rw [p_IR_leavesOut, sp_lo, if_neg h, e, decide_eq_false h4]
      · rw [p_IR_leavesOut, sp_lo, if_neg h, e, decide_eq_true h4]

def r_IR_decidingDepth (mN : Nat → Bool) (mB : Nat → Bool) (tT : Nat → Int32) (aS : Nat → Nat) (aE : Nat → Nat) (aB : Nat → Nat) (pB : Nat → Int32) (pS : Nat → Nat) (nC : Nat) (pC : Nat) : Prop := sp_rok tT aS aE aB nC ∧ sp_pth pS pC
def p_IR_decidingDepth (mN : Nat → Bool) (mB : Nat → Bool) (tT : Nat → Int32) (aS : Nat → Nat) (aE : Nat → Nat) (aB : Nat → Nat) (pB : Nat → Int32) (pS : Nat → Nat) (nC : Nat) (pC : Nat) (r : Nat) (mN' : Nat → Bool) (mB' : Nat → Bool) : Prop := r = (sp_dd (fun m => sp_lo aB (sp_lfit tT aS aE aB pB pS nC m true)) pC 1)
def v_IR_decidingDepth_2 (mN : Nat → Bool) (mB : Nat → Bool) (tT : Nat → Int32) (aS : Nat → Nat) (aE : Nat → Nat) (aB : Nat → Nat) (pB : Nat → Int32) (pS : Nat → Nat) (nC : Nat) (pC : Nat) (K2 : Nat → (Nat → Bool) → (Nat → Bool) → Prop) (Q : Nat → (Nat → Bool) → (Nat → Bool) → Prop) (n : Nat) (mNc : Nat → Bool) (mBc : Nat → Bool) : Prop := (n < 2147483648) ∧ ((pC < 2147483648) ∧ ((pC ≤ n → Q pC mNc mBc) ∧ (¬ pC ≤ n → (r_IR_lastFitting mNc mBc tT aS aE aB pB pS nC n true) ∧ ((∀ (mN1 : Nat → Bool) (mB2 : Nat → Bool), (r_IR_leavesOut aB (sp_lfit tT aS aE aB pB pS nC n true)) ∧ ((sp_lo aB (sp_lfit tT aS aE aB pB pS nC n true) = false → K2 (n + 1) mN1 mB2) ∧ (sp_lo aB (sp_lfit tT aS aE aB pB pS nC n true) = true → Q n mN1 mB2)))))))
def v_IR_decidingDepth (mN : Nat → Bool) (mB : Nat → Bool) (tT : Nat → Int32) (aS : Nat → Nat) (aE : Nat → Nat) (aB : Nat → Nat) (pB : Nat → Int32) (pS : Nat → Nat) (nC : Nat) (pC : Nat) (K2 : Nat → (Nat → Bool) → (Nat → Bool) → Prop) (Q : Nat → (Nat → Bool) → (Nat → Bool) → Prop) : Prop := K2 1 mN mB
theorem t_IR_decidingDepth (mN : Nat → Bool) (mB : Nat → Bool) (tT : Nat → Int32) (aS : Nat → Nat) (aE : Nat → Nat) (aB : Nat → Nat) (pB : Nat → Int32) (pS : Nat → Nat) (nC : Nat) (pC : Nat) (hr : r_IR_decidingDepth mN mB tT aS aE aB pB pS nC pC) (K2 : Nat → (Nat → Bool) → (Nat → Bool) → Prop) (k2 : ∀ n mNc mBc, v_IR_decidingDepth_2 mN mB tT aS aE aB pB pS nC pC K2 (p_IR_decidingDepth mN mB tT aS aE aB pB pS nC pC) n mNc mBc → K2 n mNc mBc) : v_IR_decidingDepth mN mB tT aS aE aB pB pS nC pC K2 (p_IR_decidingDepth mN mB tT aS aE aB pB pS nC pC) := by
  obtain ⟨h1, h2⟩ := hr
  have h3 := h2.1
  have h4 := h2.2.1
  have key : ∀ e n rn rb, pC - n ≤ e → 1 ≤ n → sp_dd (fun m => sp_lo aB (sp_lfit tT aS aE aB pB pS nC m true)) pC n = sp_dd (fun m => sp_lo aB (sp_lfit tT aS aE aB pB pS nC m true)) pC 1 → n ≤ 21 → K2 n rn rb := by
    intro e
    induction e with
    | zero =>
      intro n rn rb hd hn hI hb
      refine k2 n rn rb ?_
      unfold v_IR_decidingDepth_2
      refine ⟨by omega, by omega, fun h => ?_, fun h => by omega⟩
      rw [p_IR_decidingDepth, ← hI, sp_dd, dif_neg (by omega)]
    | succ e ih =>
      intro n rn rb hd hn hI hb
      refine k2 n rn rb ?_
      unfold v_IR_decidingDepth_2
      refine ⟨by omega, by omega, fun h => ?_, fun h => ⟨⟨h1, hn, by omega, fun j hj => h4 j (by omega), sp_pth_n h2 (by omega)⟩, fun rn' rb' => ⟨?_, fun h5 => ?_, fun h5 => ?_⟩⟩⟩
      · rw [p_IR_decidingDepth, ← hI, sp_dd, dif_neg (by omega)]
      · rcases sp_lastf_in (fun k => sp_rf tT (aS k) (aE k) (aB k) pB pS n true) nC with q | ⟨k, q1, q2⟩
        · exact Or.inl q
        · have := h1.1
          exact Or.inr ⟨k, by omega, (h1.2 k q1).2.2.1, q2⟩
      · refine ih (n + 1) rn' rb' (by omega) (by omega) ?_ (by omega)
        rw [← hI, sp_dd.eq_1 _ pC n, dif_pos (by omega), if_neg (by rw [h5]; decide)]
      · rw [p_IR_decidingDepth, ← hI, sp_dd, dif_pos (by omega), if_pos h5]
  exact key pC 1 mN mB (by omega) (Nat.le_refl _) rfl (by omega)

def p_IR_wipe (tl : Nat) (r : Nat) (tl' : Nat) : Prop := r = tl ∧ tl' = 0
def v_IR_wipe (tl : Nat) (Q : Nat → Nat → Prop) : Prop := Q tl 0
theorem t_IR_wipe (tl : Nat)  : v_IR_wipe tl (p_IR_wipe tl) := by
  exact ⟨rfl, rfl⟩

def r_IR_path (tl : Nat) (pC : Nat) (pB : Nat → Int32) (pS : Nat → Nat) (tA : Nat → Int32) : Prop := tl ≤ 1000 ∧ pS 0 = 0 ∧ ∀ k, k < tl → vp_nar .char (tA k) = tA k
def q_IR_path (tl : Nat) (pC : Nat) (pB : Nat → Int32) (pS : Nat → Nat) (tA : Nat → Int32) (r : Int32) (tl' : Nat) (pC' : Nat) (pB' : Nat → Int32) (pS' : Nat → Nat) : Prop := pS' 0 = 0 ∧ (sp_pok tA tl = false → r = -1 ∧ tl' = tl ∧ pC' = 0) ∧ (sp_pok tA tl = true → r = nI pC' ∧ tl' = 0 ∧ pC' = 1 + sp_cnt tA tl 0 ∧ sp_path tA tl pC' pS' pB')
def p_IR_path (tl : Nat) (pC : Nat) (pB : Nat → Int32) (pS : Nat → Nat) (tA : Nat → Int32) (r : Int32) (tl' : Nat) (pC' : Nat) (pB' : Nat → Int32) (pS' : Nat → Nat) : Prop := q_IR_path tl pC pB pS tA r tl' pC' pB' pS'
def v_IR_path (tl : Nat) (pC : Nat) (pB : Nat → Int32) (pS : Nat → Nat) (tA : Nat → Int32) (Q : Int32 → Nat → Nat → (Nat → Int32) → (Nat → Nat) → Prop) : Prop := (r_PA_load pC pB pS tA tl) ∧ ((∀ (r4 : Bool) (pC1 : Nat) (pB2 : Nat → Int32) (pS3 : Nat → Nat), q_PA_load pC pB pS tA tl r4 pC1 pB2 pS3 → (r4 = true → Q (nI pC1) 0 pC1 pB2 pS3) ∧ (r4 = false → Q (-1) tl pC1 pB2 pS3)))
theorem t_IR_path (tl : Nat) (pC : Nat) (pB : Nat → Int32) (pS : Nat → Nat) (tA : Nat → Int32) (hr : r_IR_path tl pC pB pS tA)  : v_IR_path tl pC pB pS tA (p_IR_path tl pC pB pS tA) := by
  unfold v_IR_path
  refine ⟨hr, fun r c b s hq => ?_⟩
  obtain ⟨q1, q2, q3, q4⟩ := hq
  refine ⟨fun h => ⟨q2, fun g => ?_, fun _ => ⟨rfl, rfl, q4 h⟩⟩, fun h => ⟨q2, fun _ => ⟨rfl, rfl, q3 h⟩, fun g => ?_⟩⟩
  · rw [← q1, h] at g; cases g
  · rw [← q1, h] at g; cases g

def r_IR_read (tl : Nat) (tA : Nat → Int32) (uT : Nat → Int32) (uS : Nat → Nat) (uE : Nat → Nat) (uB : Nat → Nat) (uL : Nat → Nat) (uN : Nat) : Prop := tl ≤ 1000 ∧ ∀ k, k < tl → vp_nar .char (tA k) = tA k
def q_IR_read (tl : Nat) (tA : Nat → Int32) (uT : Nat → Int32) (uS : Nat → Nat) (uE : Nat → Nat) (uB : Nat → Nat) (uL : Nat → Nat) (uN : Nat) (r : Int32) (sw' : Bool) (tl' : Nat) (uT' : Nat → Int32) (uS' : Nat → Nat) (uE' : Nat → Nat) (uB' : Nat → Nat) (uL' : Nat → Nat) (uN' : Nat) : Prop := (∀ k, k < tl → uT' k = tA k) ∧ ((sp_rules uT' tl).length ≤ 60 → r = nI uN' ∧ sw' = true ∧ tl' = 0 ∧ uN' = (sp_rules uT' tl).length ∧ sp_hold uS' uE' uB' uL' (sp_rules uT' tl)) ∧ (¬ (sp_rules uT' tl).length ≤ 60 → r = -1 ∧ sw' = false ∧ tl' = tl)
def p_IR_read (tl : Nat) (tA : Nat → Int32) (uT : Nat → Int32) (uS : Nat → Nat) (uE : Nat → Nat) (uB : Nat → Nat) (uL : Nat → Nat) (uN : Nat) (r : Int32) (sw' : Bool) (tl' : Nat) (uT' : Nat → Int32) (uS' : Nat → Nat) (uE' : Nat → Nat) (uB' : Nat → Nat) (uL' : Nat → Nat) (uN' : Nat) : Prop := q_IR_read tl tA uT uS uE uB uL uN r sw' tl' uT' uS' uE' uB' uL' uN'
def v_IR_read (tl : Nat) (tA : Nat → Int32) (uT : Nat → Int32) (uS : Nat → Nat) (uE : Nat → Nat) (uB : Nat → Nat) (uL : Nat → Nat) (uN : Nat) (Q : Int32 → Bool → Nat → (Nat → Int32) → (Nat → Nat) → (Nat → Nat) → (Nat → Nat) → (Nat → Nat) → Nat → Prop) : Prop := (r_RL_load uT uS uE uB uL uN tA tl) ∧ ((∀ (r7 : Bool) (tT1 : Nat → Int32) (aS2 : Nat → Nat) (aE3 : Nat → Nat) (aB4 : Nat → Nat) (aL5 : Nat → Nat) (nC6 : Nat), q_RL_load uT uS uE uB uL uN tA tl r7 tT1 aS2 aE3 aB4 aL5 nC6 → (r7 = true → Q (nI nC6) true 0 tT1 aS2 aE3 aB4 aL5 nC6) ∧ (r7 = false → Q (-1) false tl tT1 aS2 aE3 aB4 aL5 nC6)))
theorem t_IR_read (tl : Nat) (tA : Nat → Int32) (uT : Nat → Int32) (uS : Nat → Nat) (uE : Nat → Nat) (uB : Nat → Nat) (uL : Nat → Nat) (uN : Nat) (hr : r_IR_read tl tA uT uS uE uB uL uN)  : v_IR_read tl tA uT uS uE uB uL uN (p_IR_read tl tA uT uS uE uB uL uN) := by
  unfold v_IR_read
  refine ⟨hr, fun r t s e b l n hq => ?_⟩
  obtain ⟨q1, q2, q3⟩ := hq
  refine ⟨fun h => ⟨q2, fun _ => ⟨rfl, rfl, rfl, q3 h⟩, fun g => ?_⟩, fun h => ⟨q2, fun g => ?_, fun _ => ⟨rfl, rfl, rfl⟩⟩⟩
  · rw [q1, decide_eq_true_eq] at h
    exact absurd h g
  · rw [q1, decide_eq_true g] at h
    cases h
end
section
theorem kw_0_1 : Cond.initialized "IgnoreRules" ∈ ig_T := ig_T_mem (List.mem_append_left _ (List.mem_of_getElem? (i := 1) rfl)) rfl
theorem kw_0_89 : Cond.fieldLink "IgnoreRules" 9 "IgnoreRules" "tape" "[C" ∈ ig_T := ig_T_mem (List.mem_append_left _ (List.mem_of_getElem? (i := 89) rfl)) rfl
theorem kw_0_90 : Cond.fieldLink "IgnoreRules" 44 "IgnoreRules" "tapeLength" "I" ∈ ig_T := ig_T_mem (List.mem_append_left _ (List.mem_of_getElem? (i := 90) rfl)) rfl
theorem kw_0_91 : Cond.fieldLink "IgnoreRules" 16 "IgnoreRules" "rules" "LIgnoreRules$RuleList;" ∈ ig_T := ig_T_mem (List.mem_append_left _ (List.mem_of_getElem? (i := 91) rfl)) rfl
theorem kw_0_92 : Cond.fieldLink "IgnoreRules" 20 "IgnoreRules" "spare" "LIgnoreRules$RuleList;" ∈ ig_T := ig_T_mem (List.mem_append_left _ (List.mem_of_getElem? (i := 92) rfl)) rfl
theorem kw_0_93 : Cond.fieldLink "IgnoreRules" 26 "IgnoreRules" "current" "LIgnoreRules$Path;" ∈ ig_T := ig_T_mem (List.mem_append_left _ (List.mem_of_getElem? (i := 93) rfl)) rfl
theorem kw_0_94 : Cond.fieldLink "IgnoreRules" 33 "IgnoreRules" "matcher" "LIgnoreRules$Matcher;" ∈ ig_T := ig_T_mem (List.mem_append_left _ (List.mem_of_getElem? (i := 94) rfl)) rfl
theorem kw_0_118 : Cond.instanceMethod y_RL_load ∈ ig_T := ig_T_mem (List.mem_append_left _ (List.mem_of_getElem? (i := 118) rfl)) rfl
theorem kw_0_152 : Cond.instanceMethod y_PA_load ∈ ig_T := ig_T_mem (List.mem_append_left _ (List.mem_of_getElem? (i := 152) rfl)) rfl
theorem kw_1_54 : Cond.instanceMethod y_MA_ruleFits ∈ ig_T := ig_T_mem (List.mem_append_right _ (List.mem_append_left _ (List.mem_of_getElem? (i := 54) rfl))) rfl
theorem kw_1_92 : Cond.methodLink "IgnoreRules" 87 y_IR_lastFitting ∈ ig_T := ig_T_mem (List.mem_append_right _ (List.mem_append_left _ (List.mem_of_getElem? (i := 92) rfl))) rfl
theorem kw_1_94 : Cond.instanceMethod y_IR_lastFitting ∈ ig_T := ig_T_mem (List.mem_append_right _ (List.mem_append_left _ (List.mem_of_getElem? (i := 94) rfl))) rfl
theorem kw_1_96 : Cond.methodLink "IgnoreRules" 91 y_IR_leavesOut ∈ ig_T := ig_T_mem (List.mem_append_right _ (List.mem_append_left _ (List.mem_of_getElem? (i := 96) rfl))) rfl
theorem kw_1_98 : Cond.instanceMethod y_IR_leavesOut ∈ ig_T := ig_T_mem (List.mem_append_right _ (List.mem_append_left _ (List.mem_of_getElem? (i := 98) rfl))) rfl
theorem d_IR_lastFitting_0 : decode b_IR_lastFitting 0 = .ok (.aload_n 0, 1) := by decide +kernel
theorem d_IR_lastFitting_1 : decode b_IR_lastFitting 1 = .ok (.getfield 16, 3) := by decide +kernel
theorem d_IR_lastFitting_4 : decode b_IR_lastFitting 4 = .ok (.getfield 54, 3) := by decide +kernel
theorem d_IR_lastFitting_7 : decode b_IR_lastFitting 7 = .ok (.iconst 1, 1) := by decide +kernel
theorem d_IR_lastFitting_8 : decode b_IR_lastFitting 8 = .ok (.isub, 1) := by decide +kernel
theorem d_IR_lastFitting_9 : decode b_IR_lastFitting 9 = .ok (.istore_n 3, 1) := by decide +kernel
theorem d_IR_lastFitting_10 : decode b_IR_lastFitting 10 = .ok (.iload_n 3, 1) := by decide +kernel
theorem d_IR_lastFitting_11 : decode b_IR_lastFitting 11 = .ok (.ifCond .lt 32, 3) := by decide +kernel
theorem d_IR_lastFitting_14 : decode b_IR_lastFitting 14 = .ok (.aload_n 0, 1) := by decide +kernel
theorem d_IR_lastFitting_15 : decode b_IR_lastFitting 15 = .ok (.getfield 33, 3) := by decide +kernel
theorem d_IR_lastFitting_18 : decode b_IR_lastFitting 18 = .ok (.aload_n 0, 1) := by decide +kernel
theorem d_IR_lastFitting_19 : decode b_IR_lastFitting 19 = .ok (.getfield 16, 3) := by decide +kernel
theorem d_IR_lastFitting_22 : decode b_IR_lastFitting 22 = .ok (.iload_n 3, 1) := by decide +kernel
theorem d_IR_lastFitting_23 : decode b_IR_lastFitting 23 = .ok (.aload_n 0, 1) := by decide +kernel
theorem d_IR_lastFitting_24 : decode b_IR_lastFitting 24 = .ok (.getfield 26, 3) := by decide +kernel
theorem d_IR_lastFitting_27 : decode b_IR_lastFitting 27 = .ok (.iload_n 1, 1) := by decide +kernel
theorem d_IR_lastFitting_28 : decode b_IR_lastFitting 28 = .ok (.iload_n 2, 1) := by decide +kernel
theorem d_IR_lastFitting_29 : decode b_IR_lastFitting 29 = .ok (.invokevirtual 79, 3) := by decide +kernel
theorem d_IR_lastFitting_32 : decode b_IR_lastFitting 32 = .ok (.ifCond .eq 5, 3) := by decide +kernel
theorem d_IR_lastFitting_35 : decode b_IR_lastFitting 35 = .ok (.iload_n 3, 1) := by decide +kernel
theorem d_IR_lastFitting_36 : decode b_IR_lastFitting 36 = .ok (.ireturn, 1) := by decide +kernel
theorem d_IR_lastFitting_37 : decode b_IR_lastFitting 37 = .ok (.iinc 3 (-1), 3) := by decide +kernel
theorem d_IR_lastFitting_40 : decode b_IR_lastFitting 40 = .ok (.goto (-30), 3) := by decide +kernel
theorem d_IR_lastFitting_43 : decode b_IR_lastFitting 43 = .ok (.iconst (-1), 1) := by decide +kernel
theorem d_IR_lastFitting_44 : decode b_IR_lastFitting 44 = .ok (.ireturn, 1) := by decide +kernel
abbrev w_IR_lastFitting : List Cond := Cond.code y_IR_lastFitting b_IR_lastFitting 4 (some .int) :: ig_T
theorem g_IR_lastFitting : GoodIn ig_T w_IR_lastFitting := ig_T_good (ig_T_mem (List.mem_append_right _ (List.mem_append_left _ (List.mem_of_getElem? (i := 95) rfl))) rfl)
set_option maxHeartbeats 4000000 in
set_option maxRecDepth 100000 in
theorem c_IR_lastFitting (l : Launch) (dC : Nat → ClassId) (dI : Nat → Nat → Nat) (cC cI cZ cL : ClassId) (x0 qT q0 s0 p0 m0 mn mb qt qs qe qb ql pb ps : Nat) (tl : Int32) (pC : Int32) (mN : Nat → Bool) (mB : Nat → Bool) (tT : Nat → Int32) (aS : Nat → Nat) (aE : Nat → Nat) (aB : Nat → Nat) (pB : Nat → Int32) (pS : Nat → Nat) (nC : Nat) (n : Nat) (d : Bool) (sz : Nat) (hr : r_IR_lastFitting mN mB tT aS aE aB pB pS nC n d) : Met l y_IR_lastFitting w_IR_lastFitting ({ frames := 4, cells := 0, slots := 0, locals := 118 }) (ig_Pc (dC, dI) ig_cl0 [(cC, .char), (cI, .int), (cZ, .boolean), (cL, .long)] [.ref x0, .int (nI n), .int (bI d)] [(x0, .inr (ciIR, [.ref qT, .int tl, .ref q0, .ref s0, .ref p0, .ref m0])), (m0, .inr (ciMA, [.ref mn, .ref mb])), (mn, .inl (cZ, 21, .inl (fun j => bI (mN j)))), (mb, .inl (cZ, 121, .inl (fun j => bI (mB j)))), (q0, .inr (ciRL, [.ref qt, .ref qs, .ref qe, .ref qb, .ref ql, .int (nI nC)])), (qt, .inl (cC, 1000, .inl tT)), (qs, .inl (cI, 60, .inl (fun j => nI (aS j)))), (qe, .inl (cI, 60, .inl (fun j => nI (aE j)))), (qb, .inl (cI, 60, .inl (fun j => nI (aB j)))), (p0, .inr (ciPA, [.ref pb, .ref ps, .int pC])), (pb, .inl (cC, 120, .inl pB)), (ps, .inl (cI, 21, .inl (fun j => nI (pS j))))] sz) (va_Qi (fun (r : Int32) (u : (Nat → Bool) × (Nat → Bool)) => p_IR_lastFitting mN mB tT aS aE aB pB pS nC n d r u.1 u.2) (fun u t => va_P (dC, dI) ig_cl0 ((fun (u : (Nat → Bool) × (Nat → Bool)) => [(x0, .inr (ciIR, [.ref qT, .int tl, .ref q0, .ref s0, .ref p0, .ref m0])), (m0, .inr (ciMA, [.ref mn, .ref mb])), (mn, .inl (cZ, 21, .inl (fun j => bI (u.1 j)))), (mb, .inl (cZ, 121, .inl (fun j => bI (u.2 j)))), (q0, .inr (ciRL, [.ref qt, .ref qs, .ref qe, .ref qb, .ref ql, .int (nI nC)])), (qt, .inl (cC, 1000, .inl tT)), (qs, .inl (cI, 60, .inl (fun j => nI (aS j)))), (qe, .inl (cI, 60, .inl (fun j => nI (aE j)))), (qb, .inl (cI, 60, .inl (fun j => nI (aB j)))), (p0, .inr (ciPA, [.ref pb, .ref ps, .int pC])), (pb, .inl (cC, 120, .inl pB)), (ps, .inl (cI, 21, .inl (fun j => nI (pS j))))]) u) t.heap ∧ va_D (va_A [(x0, .inr (ciIR, [.ref qT, .int tl, .ref q0, .ref s0, .ref p0, .ref m0])), (m0, .inr (ciMA, [.ref mn, .ref mb])), (mn, .inl (cZ, 21, .inl (fun j => bI (mN j)))), (mb, .inl (cZ, 121, .inl (fun j => bI (mB j)))), (q0, .inr (ciRL, [.ref qt, .ref qs, .ref qe, .ref qb, .ref ql, .int (nI nC)])), (qt, .inl (cC, 1000, .inl tT)), (qs, .inl (cI, 60, .inl (fun j => nI (aS j)))), (qe, .inl (cI, 60, .inl (fun j => nI (aE j)))), (qb, .inl (cI, 60, .inl (fun j => nI (aB j)))), (p0, .inr (ciPA, [.ref pb, .ref ps, .int pC])), (pb, .inl (cC, 120, .inl pB)), (ps, .inl (cI, 21, .inl (fun j => nI (pS j))))] sz) ((fun (u : (Nat → Bool) × (Nat → Bool)) => [(x0, .inr (ciIR, [.ref qT, .int tl, .ref q0, .ref s0, .ref p0, .ref m0])), (m0, .inr (ciMA, [.ref mn, .ref mb])), (mn, .inl (cZ, 21, .inl (fun j => bI (u.1 j)))), (mb, .inl (cZ, 121, .inl (fun j => bI (u.2 j)))), (q0, .inr (ciRL, [.ref qt, .ref qs, .ref qe, .ref qb, .ref ql, .int (nI nC)])), (qt, .inl (cC, 1000, .inl tT)), (qs, .inl (cI, 60, .inl (fun j => nI (aS j)))), (qe, .inl (cI, 60, .inl (fun j => nI (aE j)))), (qb, .inl (cI, 60, .inl (fun j => nI (aB j)))), (p0, .inr (ciPA, [.ref pb, .ref ps, .int pC])), (pb, .inl (cC, 120, .inl pB)), (ps, .inl (cI, 21, .inl (fun j => nI (pS j))))]) u)) (va_A [(x0, .inr (ciIR, [.ref qT, .int tl, .ref q0, .ref s0, .ref p0, .ref m0])), (m0, .inr (ciMA, [.ref mn, .ref mb])), (mn, .inl (cZ, 21, .inl (fun j => bI (mN j)))), (mb, .inl (cZ, 121, .inl (fun j => bI (mB j)))), (q0, .inr (ciRL, [.ref qt, .ref qs, .ref qe, .ref qb, .ref ql, .int (nI nC)])), (qt, .inl (cC, 1000, .inl tT)), (qs, .inl (cI, 60, .inl (fun j => nI (aS j)))), (qe, .inl (cI, 60, .inl (fun j => nI (aE j)))), (qb, .inl (cI, 60, .inl (fun j => nI (aB j)))), (p0, .inr (ciPA, [.ref pb, .ref ps, .int pC])), (pb, .inl (cC, 120, .inl pB)), (ps, .inl (cI, 21, .inl (fun j => nI (pS j))))] sz)) 0 0 (va_A [(x0, .inr (ciIR, [.ref qT, .int tl, .ref q0, .ref s0, .ref p0, .ref m0])), (m0, .inr (ciMA, [.ref mn, .ref mb])), (mn, .inl (cZ, 21, .inl (fun j => bI (mN j)))), (mb, .inl (cZ, 121, .inl (fun j => bI (mB j)))), (q0, .inr (ciRL, [.ref qt, .ref qs, .ref qe, .ref qb, .ref ql, .int (nI nC)])), (qt, .inl (cC, 1000, .inl tT)), (qs, .inl (cI, 60, .inl (fun j => nI (aS j)))), (qe, .inl (cI, 60, .inl (fun j => nI (aE j)))), (qb, .inl (cI, 60, .inl (fun j => nI (aB j)))), (p0, .inr (ciPA, [.ref pb, .ref ps, .int pC])), (pb, .inl (cC, 120, .inl pB)), (ps, .inl (cI, 21, .inl (fun j => nI (pS j))))] sz) := by
  refine ig_metI (fun (r : Int32) (u : (Nat → Bool) × (Nat → Bool)) => p_IR_lastFitting mN mB tT aS aE aB pB pS nC n d r u.1 u.2) (fun (u : (Nat → Bool) × (Nat → Bool)) => [(x0, .inr (ciIR, [.ref qT, .int tl, .ref q0, .ref s0, .ref p0, .ref m0])), (m0, .inr (ciMA, [.ref mn, .ref mb])), (mn, .inl (cZ, 21, .inl (fun j => bI (u.1 j)))), (mb, .inl (cZ, 121, .inl (fun j => bI (u.2 j)))), (q0, .inr (ciRL, [.ref qt, .ref qs, .ref qe, .ref qb, .ref ql, .int (nI nC)])), (qt, .inl (cC, 1000, .inl tT)), (qs, .inl (cI, 60, .inl (fun j => nI (aS j)))), (qe, .inl (cI, 60, .inl (fun j => nI (aE j)))), (qb, .inl (cI, 60, .inl (fun j => nI (aB j)))), (p0, .inr (ciPA, [.ref pb, .ref ps, .int pC])), (pb, .inl (cC, 120, .inl pB)), (ps, .inl (cI, 21, .inl (fun j => nI (pS j))))]) (by decide) rfl (Nat.le_of_ble_eq_true rfl) rfl (fun _ _ _ => rfl) ?_
  intro zp ze zs zm zargs zbelow zmeth zc zA zQ hx hb hml hown hts hK hN hA hret
  obtain ⟨K10, hK10⟩ : ∃ K : Nat → (Nat → Bool) → (Nat → Bool) → Prop, K = fun (k : Nat) (mNc : Nat → Bool) (mBc : Nat → Bool) => ig_W zp l ze ({ frames := 4, cells := 0, slots := 0, locals := 118 }) zs zm zargs zbelow zmeth zc (dC, dI) ig_cl0 zA zs.heap 4 0 0 zQ 10 [(0, .ref x0), (1, .int (nI n)), (2, .int (bI d)), (3, .int (nI k - 1))] [] [(x0, .inr (ciIR, [.ref qT, .int tl, .ref q0, .ref s0, .ref p0, .ref m0])), (m0, .inr (ciMA, [.ref mn, .ref mb])), (mn, .inl (cZ, 21, .inl (fun j => bI (mNc j)))), (mb, .inl (cZ, 121, .inl (fun j => bI (mBc j)))), (q0, .inr (ciRL, [.ref qt, .ref qs, .ref qe, .ref qb, .ref ql, .int (nI nC)])), (qt, .inl (cC, 1000, .inl tT)), (qs, .inl (cI, 60, .inl (fun j => nI (aS j)))), (qe, .inl (cI, 60, .inl (fun j => nI (aE j)))), (qb, .inl (cI, 60, .inl (fun j => nI (aB j)))), (p0, .inr (ciPA, [.ref pb, .ref ps, .int pC])), (pb, .inl (cC, 120, .inl pB)), (ps, .inl (cI, 21, .inl (fun j => nI (pS j))))] := ⟨_, rfl⟩
  have k10 : ∀ (k : Nat) (mNc : Nat → Bool) (mBc : Nat → Bool), v_IR_lastFitting_10 mN mB tT aS aE aB pB pS nC n d K10 (p_IR_lastFitting mN mB tT aS aE aB pB pS nC n d) k mNc mBc → K10 k mNc mBc := by
    intro k mNc mBc hv
    unfold v_IR_lastFitting_10 at hv
    rw [hK10]
    show ig_W zp l ze ({ frames := 4, cells := 0, slots := 0, locals := 118 }) zs zm zargs zbelow zmeth zc (dC, dI) ig_cl0 zA zs.heap 4 0 0 zQ 10 [(0, .ref x0), (1, .int (nI n)), (2, .int (bI d)), (3, .int (nI k - 1))] [] [(x0, .inr (ciIR, [.ref qT, .int tl, .ref q0, .ref s0, .ref p0, .ref m0])), (m0, .inr (ciMA, [.ref mn, .ref mb])), (mn, .inl (cZ, 21, .inl (fun j => bI (mNc j)))), (mb, .inl (cZ, 121, .inl (fun j => bI (mBc j)))), (q0, .inr (ciRL, [.ref qt, .ref qs, .ref qe, .ref qb, .ref ql, .int (nI nC)])), (qt, .inl (cC, 1000, .inl tT)), (qs, .inl (cI, 60, .inl (fun j => nI (aS j)))), (qe, .inl (cI, 60, .inl (fun j => nI (aE j)))), (qb, .inl (cI, 60, .inl (fun j => nI (aB j)))), (p0, .inr (ciPA, [.ref pb, .ref ps, .int pC])), (pb, .inl (cC, 120, .inl pB)), (ps, .inl (cI, 21, .inl (fun j => nI (pS j))))]
    refine ig_iload_n hx hb 3 d_IR_lastFitting_10 rfl rfl ?_
    obtain ⟨h1, hv⟩ := hv
    refine ig_if_ltP (tgt := 43) hx hb k rfl d_IR_lastFitting_11 (by decide) h1 (fun h => ?_) (fun j1 h => ?_)
    · have hv := hv.1 h
      refine ig_iconst (v := (-1)) hx hb d_IR_lastFitting_43 (by decide) ?_
      exact hret 44 _ (-1) (mNc, mBc) d_IR_lastFitting_44 hv
    · subst h
      have hv := hv.2 j1 rfl
      rw [nI_pred]
      refine ig_aload_n hx hb 0 d_IR_lastFitting_14 rfl rfl ?_
      refine ig_get hx hb hts in_IR hown hK 0 rfl rfl 5 (by decide) (hts _ kw_0_94) (fun _ h => h) rfl d_IR_lastFitting_15 ?_
      refine ig_aload_n hx hb 0 d_IR_lastFitting_18 rfl rfl ?_
      refine ig_get hx hb hts in_IR hown hK 0 rfl rfl 2 (by decide) (hts _ kw_0_91) (fun _ h => h) rfl d_IR_lastFitting_19 ?_
      refine ig_iload_n hx hb 3 d_IR_lastFitting_22 rfl rfl ?_
      refine ig_aload_n hx hb 0 d_IR_lastFitting_23 rfl rfl ?_
      refine ig_get hx hb hts in_IR hown hK 0 rfl rfl 4 (by decide) (hts _ kw_0_93) (fun _ h => h) rfl d_IR_lastFitting_24 ?_
      refine ig_iload_n hx hb 1 d_IR_lastFitting_27 rfl rfl ?_
      refine ig_iload_n hx hb 2 d_IR_lastFitting_28 rfl rfl ?_
      obtain ⟨hc, hv⟩ := hv
      refine ig_cVNi (As := [.ref q0, .int (nI j1), .ref p0, .int (nI n), .int (bI d)]) (rest := []) (wr := [(x0, .inr (ciIR, [.ref qT, .int tl, .ref q0, .ref s0, .ref p0, .ref m0]))]) (ws' := fun u => [(x0, .inr (ciIR, [.ref qT, .int tl, .ref q0, .ref s0, .ref p0, .ref m0])), (m0, .inr (ciMA, [.ref mn, .ref mb])), (mn, .inl (cZ, 21, .inl (fun j => bI (u.1 j)))), (mb, .inl (cZ, 121, .inl (fun j => bI (u.2 j)))), (q0, .inr (ciRL, [.ref qt, .ref qs, .ref qe, .ref qb, .ref ql, .int (nI nC)])), (qt, .inl (cC, 1000, .inl tT)), (qs, .inl (cI, 60, .inl (fun j => nI (aS j)))), (qe, .inl (cI, 60, .inl (fun j => nI (aE j)))), (qb, .inl (cI, 60, .inl (fun j => nI (aB j)))), (p0, .inr (ciPA, [.ref pb, .ref ps, .int pC])), (pb, .inl (cC, 120, .inl pB)), (ps, .inl (cI, 21, .inl (fun j => nI (pS j))))]) hx hb hml hown hts hK hN hA (fun sz => c_MA_ruleFits l dC dI cC cI cZ cL m0 mn mb q0 qt qs qe qb ql p0 pb ps (nI nC) pC mNc mBc tT aS aE aB pB pS j1 n d sz hc) ⟨va_cnB 5 hts g_MA_ruleFits rfl rfl rfl (nk_7 hN) (hts _ kw_0_4) (by decide +kernel) (by decide), (hts _ kw_1_54), (hts _ ks_MA_ruleFits)⟩ rfl rfl (Nat.le_of_ble_eq_true rfl) d_IR_lastFitting_29 (by decide) 0 rfl rfl [1, 2, 3, 4, 5, 6, 7, 8, 9, 10, 11] [0] [0, 1, 2, 3, 4, 5, 6, 7, 8, 9, 10, 11] rfl rfl (by decide) (by decide) (by decide) (fun _ => rfl) (fun _ => rfl) (fun r u hr => ?_)
      obtain ⟨mN2, mB3⟩ := u
      obtain ⟨rr, rfl, hr⟩ := hr
      unfold p_MA_ruleFits at hr
      subst hr
      have hv := hv mN2 mB3
      refine ig_if_eqB (tgt := 37) hx hb (sp_rf tT (aS j1) (aE j1) (aB j1) pB pS n d) rfl d_IR_lastFitting_32 (by decide) (fun h => ?_) (fun h => ?_)
      · have hv := hv.1 h
        refine ig_iinc (v := (nI j1 - 1)) (lv' := [(3, .int (nI j1 - 1)), (0, .ref x0), (1, .int (nI n)), (2, .int (bI d))]) hx hb 3 d_IR_lastFitting_37 rfl (ig_toP j1) (by decide) rfl ?_
        refine ig_goto (tgt := 10) hx hb d_IR_lastFitting_40 (by decide) ?_
        refine ig_lv (lv' := [(0, .ref x0), (1, .int (nI n)), (2, .int (bI d)), (3, .int (nI j1 - 1))]) [1, 2, 3, 0] rfl ?_
        rw [hK10] at hv
        exact hv
      · have hv := hv.2 h
        refine ig_iload_n hx hb 3 d_IR_lastFitting_35 rfl rfl ?_
        exact hret 36 _ (nI j1) (mN2, mB3) d_IR_lastFitting_36 hv
  have hv := t_IR_lastFitting mN mB tT aS aE aB pB pS nC n d hr K10 k10
  unfold v_IR_lastFitting at hv
  refine ig_aload_n hx hb 0 d_IR_lastFitting_0 rfl rfl ?_
  refine ig_get hx hb hts in_IR hown hK 0 rfl rfl 2 (by decide) (hts _ kw_0_91) (fun _ h => h) rfl d_IR_lastFitting_1 ?_
  refine ig_getN hx hb hts in_RL hown hK 4 rfl rfl 5 (by decide) (va_Nw.use rfl (fk_7 hN)) (fun _ h => h) rfl d_IR_lastFitting_4 ?_
  refine ig_iconst (v := 1) hx hb d_IR_lastFitting_7 (by decide) ?_
  refine ig_isub hx hb d_IR_lastFitting_8 ?_
  refine ig_istore_n (lv' := [(3, .int (nI nC - 1)), (0, .ref x0), (1, .int (nI n)), (2, .int (bI d))]) hx hb d_IR_lastFitting_9 rfl (by decide) rfl ?_
  refine ig_lv (lv' := [(0, .ref x0), (1, .int (nI n)), (2, .int (bI d)), (3, .int (nI nC - 1))]) [1, 2, 3, 0] rfl ?_
  rw [hK10] at hv
  exact hv
theorem d_IR_leavesOut_0 : decode b_IR_leavesOut 0 = .ok (.iload_n 1, 1) := by decide +kernel
theorem d_IR_leavesOut_1 : decode b_IR_leavesOut 1 = .ok (.iconst (-1), 1) := by decide +kernel
theorem d_IR_leavesOut_2 : decode b_IR_leavesOut 2 = .ok (.if_icmp .eq 21, 3) := by decide +kernel
theorem d_IR_leavesOut_5 : decode b_IR_leavesOut 5 = .ok (.aload_n 0, 1) := by decide +kernel
theorem d_IR_leavesOut_6 : decode b_IR_leavesOut 6 = .ok (.getfield 16, 3) := by decide +kernel
theorem d_IR_leavesOut_9 : decode b_IR_leavesOut 9 = .ok (.getfield 61, 3) := by decide +kernel
theorem d_IR_leavesOut_12 : decode b_IR_leavesOut 12 = .ok (.iload_n 1, 1) := by decide +kernel
theorem d_IR_leavesOut_13 : decode b_IR_leavesOut 13 = .ok (.iaload, 1) := by decide +kernel
theorem d_IR_leavesOut_14 : decode b_IR_leavesOut 14 = .ok (.iconst 1, 1) := by decide +kernel
theorem d_IR_leavesOut_15 : decode b_IR_leavesOut 15 = .ok (.iand, 1) := by decide +kernel
theorem d_IR_leavesOut_16 : decode b_IR_leavesOut 16 = .ok (.ifCond .ne 7, 3) := by decide +kernel
theorem d_IR_leavesOut_19 : decode b_IR_leavesOut 19 = .ok (.iconst 1, 1) := by decide +kernel
theorem d_IR_leavesOut_20 : decode b_IR_leavesOut 20 = .ok (.goto 4, 3) := by decide +kernel
theorem d_IR_leavesOut_23 : decode b_IR_leavesOut 23 = .ok (.iconst 0, 1) := by decide +kernel
theorem d_IR_leavesOut_24 : decode b_IR_leavesOut 24 = .ok (.ireturn, 1) := by decide +kernel
abbrev w_IR_leavesOut : List Cond := Cond.code y_IR_leavesOut b_IR_leavesOut 2 (some .boolean) :: ig_T
theorem g_IR_leavesOut : GoodIn ig_T w_IR_leavesOut := ig_T_good (ig_T_mem (List.mem_append_right _ (List.mem_append_left _ (List.mem_of_getElem? (i := 99) rfl))) rfl)
set_option maxHeartbeats 4000000 in
set_option maxRecDepth 100000 in
theorem c_IR_leavesOut (l : Launch) (dC : Nat → ClassId) (dI : Nat → Nat → Nat) (cC cI cZ cL : ClassId) (x0 qT q0 s0 p0 m0 qt qs qe qb ql : Nat) (tl : Int32) (nC : Int32) (aB : Nat → Nat) (x : Int32) (sz : Nat) (hr : r_IR_leavesOut aB x) : Met l y_IR_leavesOut w_IR_leavesOut ({ frames := 0, cells := 0, slots := 0, locals := 0 }) (ig_Pc (dC, dI) ig_cl0 [(cC, .char), (cI, .int), (cZ, .boolean), (cL, .long)] [.ref x0, .int x] [(x0, .inr (ciIR, [.ref qT, .int tl, .ref q0, .ref s0, .ref p0, .ref m0])), (q0, .inr (ciRL, [.ref qt, .ref qs, .ref qe, .ref qb, .ref ql, .int nC])), (qb, .inl (cI, 60, .inl (fun j => nI (aB j))))] sz) (va_Qi (fun (r : Int32) (u : Unit) => ∃ zr : Bool, r = bI zr ∧ p_IR_leavesOut aB x zr ) (fun u t => va_P (dC, dI) ig_cl0 ((fun (u : Unit) => [(x0, .inr (ciIR, [.ref qT, .int tl, .ref q0, .ref s0, .ref p0, .ref m0])), (q0, .inr (ciRL, [.ref qt, .ref qs, .ref qe, .ref qb, .ref ql, .int nC])), (qb, .inl (cI, 60, .inl (fun j => nI (aB j))))]) u) t.heap ∧ va_D (va_A [(x0, .inr (ciIR, [.ref qT, .int tl, .ref q0, .ref s0, .ref p0, .ref m0])), (q0, .inr (ciRL, [.ref qt, .ref qs, .ref qe, .ref qb, .ref ql, .int nC])), (qb, .inl (cI, 60, .inl (fun j => nI (aB j))))] sz) ((fun (u : Unit) => [(x0, .inr (ciIR, [.ref qT, .int tl, .ref q0, .ref s0, .ref p0, .ref m0])), (q0, .inr (ciRL, [.ref qt, .ref qs, .ref qe, .ref qb, .ref ql, .int nC])), (qb, .inl (cI, 60, .inl (fun j => nI (aB j))))]) u)) (va_A [(x0, .inr (ciIR, [.ref qT, .int tl, .ref q0, .ref s0, .ref p0, .ref m0])), (q0, .inr (ciRL, [.ref qt, .ref qs, .ref qe, .ref qb, .ref ql, .int nC])), (qb, .inl (cI, 60, .inl (fun j => nI (aB j))))] sz)) 0 0 (va_A [(x0, .inr (ciIR, [.ref qT, .int tl, .ref q0, .ref s0, .ref p0, .ref m0])), (q0, .inr (ciRL, [.ref qt, .ref qs, .ref qe, .ref qb, .ref ql, .int nC])), (qb, .inl (cI, 60, .inl (fun j => nI (aB j))))] sz) := by
  refine ig_metI (fun (r : Int32) (u : Unit) => ∃ zr : Bool, r = bI zr ∧ p_IR_leavesOut aB x zr ) (fun (u : Unit) => [(x0, .inr (ciIR, [.ref qT, .int tl, .ref q0, .ref s0, .ref p0, .ref m0])), (q0, .inr (ciRL, [.ref qt, .ref qs, .ref qe, .ref qb, .ref ql, .int nC])), (qb, .inl (cI, 60, .inl (fun j => nI (aB j))))]) (by decide) rfl (Nat.le_of_ble_eq_true rfl) rfl (by rintro r u ⟨b, rfl, -⟩; exact bI_ret b) ?_
  intro zp ze zs zm zargs zbelow zmeth zc zA zQ hx hb hml hown hts hK hN hA hret
  have hv := t_IR_leavesOut aB x hr 
  unfold v_IR_leavesOut at hv
  refine ig_iload_n hx hb 1 d_IR_leavesOut_0 rfl rfl ?_
  refine ig_iconst (v := (-1)) hx hb d_IR_leavesOut_1 (by decide) ?_
  refine ig_icmp_eq (tgt := 23) hx hb d_IR_leavesOut_2 (by decide) (fun h => ?_) (fun h => ?_)
  · have hv := hv.1 h
    refine ig_iconst (v := 0) hx hb d_IR_leavesOut_23 (by decide) ?_
    exact hret 24 _ 0 () d_IR_leavesOut_24 ⟨false, rfl, hv⟩
  · have hv := hv.2 h
    obtain ⟨k1, he, hv⟩ := hv
    rw [he]
    refine ig_aload_n hx hb 0 d_IR_leavesOut_5 rfl rfl ?_
    refine ig_get hx hb hts in_IR hown hK 0 rfl rfl 2 (by decide) (hts _ kw_0_91) (fun _ h => h) rfl d_IR_leavesOut_6 ?_
    refine ig_getN hx hb hts in_RL hown hK 1 rfl rfl 3 (by decide) (va_Nw.use rfl (fk_5 hN)) (fun _ h => h) rfl d_IR_leavesOut_9 ?_
    refine ig_iload_n hx hb 1 d_IR_leavesOut_12 rfl rfl ?_
    obtain ⟨hc, hv⟩ := hv
    refine ig_iald (x := (nI (aB k1))) hx hb hK 2 1 rfl rfl k1 rfl hc (by decide) rfl d_IR_leavesOut_13 ?_
    refine ig_iconst (v := 1) hx hb d_IR_leavesOut_14 (by decide) ?_
    refine ig_iandN hx hb (aB k1) 1 rfl rfl d_IR_leavesOut_15 ?_
    obtain ⟨h1, hv⟩ := hv
    refine ig_if_neN (tgt := 23) hx hb ((aB k1) &&& 1) rfl d_IR_leavesOut_16 (by decide) h1 (fun h => ?_) (fun h => ?_)
    · have hv := hv.1 h
      refine ig_iconst (v := 0) hx hb d_IR_leavesOut_23 (by decide) ?_
      exact hret 24 _ 0 () d_IR_leavesOut_24 ⟨false, rfl, hv⟩
    · have hv := hv.2 h
      refine ig_iconst (v := 1) hx hb d_IR_leavesOut_19 (by decide) ?_
      refine ig_goto (tgt := 24) hx hb d_IR_leavesOut_20 (by decide) ?_
      exact hret 24 _ 1 () d_IR_leavesOut_24 ⟨true, rfl, hv⟩
theorem d_IR_decidingDepth_0 : decode b_IR_decidingDepth 0 = .ok (.iconst 1, 1) := by decide +kernel
theorem d_IR_decidingDepth_1 : decode b_IR_decidingDepth 1 = .ok (.istore_n 1, 1) := by decide +kernel
theorem d_IR_decidingDepth_2 : decode b_IR_decidingDepth 2 = .ok (.iload_n 1, 1) := by decide +kernel
theorem d_IR_decidingDepth_3 : decode b_IR_decidingDepth 3 = .ok (.aload_n 0, 1) := by decide +kernel
theorem d_IR_decidingDepth_4 : decode b_IR_decidingDepth 4 = .ok (.getfield 26, 3) := by decide +kernel
theorem d_IR_decidingDepth_7 : decode b_IR_decidingDepth 7 = .ok (.getfield 75, 3) := by decide +kernel
theorem d_IR_decidingDepth_10 : decode b_IR_decidingDepth 10 = .ok (.if_icmp .ge 24, 3) := by decide +kernel
theorem d_IR_decidingDepth_13 : decode b_IR_decidingDepth 13 = .ok (.aload_n 0, 1) := by decide +kernel
theorem d_IR_decidingDepth_14 : decode b_IR_decidingDepth 14 = .ok (.aload_n 0, 1) := by decide +kernel
theorem d_IR_decidingDepth_15 : decode b_IR_decidingDepth 15 = .ok (.iload_n 1, 1) := by decide +kernel
theorem d_IR_decidingDepth_16 : decode b_IR_decidingDepth 16 = .ok (.iconst 1, 1) := by decide +kernel
theorem d_IR_decidingDepth_17 : decode b_IR_decidingDepth 17 = .ok (.invokevirtual 87, 3) := by decide +kernel
theorem d_IR_decidingDepth_20 : decode b_IR_decidingDepth 20 = .ok (.invokevirtual 91, 3) := by decide +kernel
theorem d_IR_decidingDepth_23 : decode b_IR_decidingDepth 23 = .ok (.ifCond .eq 5, 3) := by decide +kernel
theorem d_IR_decidingDepth_26 : decode b_IR_decidingDepth 26 = .ok (.iload_n 1, 1) := by decide +kernel
theorem d_IR_decidingDepth_27 : decode b_IR_decidingDepth 27 = .ok (.ireturn, 1) := by decide +kernel
theorem d_IR_decidingDepth_28 : decode b_IR_decidingDepth 28 = .ok (.iinc 1 1, 3) := by decide +kernel
theorem d_IR_decidingDepth_31 : decode b_IR_decidingDepth 31 = .ok (.goto (-29), 3) := by decide +kernel
theorem d_IR_decidingDepth_34 : decode b_IR_decidingDepth 34 = .ok (.aload_n 0, 1) := by decide +kernel
theorem d_IR_decidingDepth_35 : decode b_IR_decidingDepth 35 = .ok (.getfield 26, 3) := by decide +kernel
theorem d_IR_decidingDepth_38 : decode b_IR_decidingDepth 38 = .ok (.getfield 75, 3) := by decide +kernel
theorem d_IR_decidingDepth_41 : decode b_IR_decidingDepth 41 = .ok (.ireturn, 1) := by decide +kernel
abbrev w_IR_decidingDepth : List Cond := Cond.code y_IR_decidingDepth b_IR_decidingDepth 2 (some .int) :: ig_T
theorem g_IR_decidingDepth : GoodIn ig_T w_IR_decidingDepth := ig_T_good (ig_T_mem (List.mem_append_right _ (List.mem_append_left _ (List.mem_of_getElem? (i := 91) rfl))) rfl)
set_option maxHeartbeats 4000000 in
set_option maxRecDepth 100000 in
theorem c_IR_decidingDepth (l : Launch) (dC : Nat → ClassId) (dI : Nat → Nat → Nat) (cC cI cZ cL : ClassId) (x0 qT q0 s0 p0 m0 mn mb qt qs qe qb ql pb ps : Nat) (tl : Int32) (mN : Nat → Bool) (mB : Nat → Bool) (tT : Nat → Int32) (aS : Nat → Nat) (aE : Nat → Nat) (aB : Nat → Nat) (pB : Nat → Int32) (pS : Nat → Nat) (nC : Nat) (pC : Nat) (sz : Nat) (hr : r_IR_decidingDepth mN mB tT aS aE aB pB pS nC pC) : Met l y_IR_decidingDepth w_IR_decidingDepth ({ frames := 5, cells := 0, slots := 0, locals := 141 }) (ig_Pc (dC, dI) ig_cl0 [(cC, .char), (cI, .int), (cZ, .boolean), (cL, .long)] [.ref x0] [(x0, .inr (ciIR, [.ref qT, .int tl, .ref q0, .ref s0, .ref p0, .ref m0])), (m0, .inr (ciMA, [.ref mn, .ref mb])), (mn, .inl (cZ, 21, .inl (fun j => bI (mN j)))), (mb, .inl (cZ, 121, .inl (fun j => bI (mB j)))), (q0, .inr (ciRL, [.ref qt, .ref qs, .ref qe, .ref qb, .ref ql, .int (nI nC)])), (qt, .inl (cC, 1000, .inl tT)), (qs, .inl (cI, 60, .inl (fun j => nI (aS j)))), (qe, .inl (cI, 60, .inl (fun j => nI (aE j)))), (qb, .inl (cI, 60, .inl (fun j => nI (aB j)))), (p0, .inr (ciPA, [.ref pb, .ref ps, .int (nI pC)])), (pb, .inl (cC, 120, .inl pB)), (ps, .inl (cI, 21, .inl (fun j => nI (pS j))))] sz) (va_Qi (fun (r : Int32) (u : (Nat → Bool) × (Nat → Bool)) => ∃ zr : Nat, r = nI zr ∧ p_IR_decidingDepth mN mB tT aS aE aB pB pS nC pC zr u.1 u.2) (fun u t => va_P (dC, dI) ig_cl0 ((fun (u : (Nat → Bool) × (Nat → Bool)) => [(x0, .inr (ciIR, [.ref qT, .int tl, .ref q0, .ref s0, .ref p0, .ref m0])), (m0, .inr (ciMA, [.ref mn, .ref mb])), (mn, .inl (cZ, 21, .inl (fun j => bI (u.1 j)))), (mb, .inl (cZ, 121, .inl (fun j => bI (u.2 j)))), (q0, .inr (ciRL, [.ref qt, .ref qs, .ref qe, .ref qb, .ref ql, .int (nI nC)])), (qt, .inl (cC, 1000, .inl tT)), (qs, .inl (cI, 60, .inl (fun j => nI (aS j)))), (qe, .inl (cI, 60, .inl (fun j => nI (aE j)))), (qb, .inl (cI, 60, .inl (fun j => nI (aB j)))), (p0, .inr (ciPA, [.ref pb, .ref ps, .int (nI pC)])), (pb, .inl (cC, 120, .inl pB)), (ps, .inl (cI, 21, .inl (fun j => nI (pS j))))]) u) t.heap ∧ va_D (va_A [(x0, .inr (ciIR, [.ref qT, .int tl, .ref q0, .ref s0, .ref p0, .ref m0])), (m0, .inr (ciMA, [.ref mn, .ref mb])), (mn, .inl (cZ, 21, .inl (fun j => bI (mN j)))), (mb, .inl (cZ, 121, .inl (fun j => bI (mB j)))), (q0, .inr (ciRL, [.ref qt, .ref qs, .ref qe, .ref qb, .ref ql, .int (nI nC)])), (qt, .inl (cC, 1000, .inl tT)), (qs, .inl (cI, 60, .inl (fun j => nI (aS j)))), (qe, .inl (cI, 60, .inl (fun j => nI (aE j)))), (qb, .inl (cI, 60, .inl (fun j => nI (aB j)))), (p0, .inr (ciPA, [.ref pb, .ref ps, .int (nI pC)])), (pb, .inl (cC, 120, .inl pB)), (ps, .inl (cI, 21, .inl (fun j => nI (pS j))))] sz) ((fun (u : (Nat → Bool) × (Nat → Bool)) => [(x0, .inr (ciIR, [.ref qT, .int tl, .ref q0, .ref s0, .ref p0, .ref m0])), (m0, .inr (ciMA, [.ref mn, .ref mb])), (mn, .inl (cZ, 21, .inl (fun j => bI (u.1 j)))), (mb, .inl (cZ, 121, .inl (fun j => bI (u.2 j)))), (q0, .inr (ciRL, [.ref qt, .ref qs, .ref qe, .ref qb, .ref ql, .int (nI nC)])), (qt, .inl (cC, 1000, .inl tT)), (qs, .inl (cI, 60, .inl (fun j => nI (aS j)))), (qe, .inl (cI, 60, .inl (fun j => nI (aE j)))), (qb, .inl (cI, 60, .inl (fun j => nI (aB j)))), (p0, .inr (ciPA, [.ref pb, .ref ps, .int (nI pC)])), (pb, .inl (cC, 120, .inl pB)), (ps, .inl (cI, 21, .inl (fun j => nI (pS j))))]) u)) (va_A [(x0, .inr (ciIR, [.ref qT, .int tl, .ref q0, .ref s0, .ref p0, .ref m0])), (m0, .inr (ciMA, [.ref mn, .ref mb])), (mn, .inl (cZ, 21, .inl (fun j => bI (mN j)))), (mb, .inl (cZ, 121, .inl (fun j => bI (mB j)))), (q0, .inr (ciRL, [.ref qt, .ref qs, .ref qe, .ref qb, .ref ql, .int (nI nC)])), (qt, .inl (cC, 1000, .inl tT)), (qs, .inl (cI, 60, .inl (fun j => nI (aS j)))), (qe, .inl (cI, 60, .inl (fun j => nI (aE j)))), (qb, .inl (cI, 60, .inl (fun j => nI (aB j)))), (p0, .inr (ciPA, [.ref pb, .ref ps, .int (nI pC)])), (pb, .inl (cC, 120, .inl pB)), (ps, .inl (cI, 21, .inl (fun j => nI (pS j))))] sz)) 0 0 (va_A [(x0, .inr (ciIR, [.ref qT, .int tl, .ref q0, .ref s0, .ref p0, .ref m0])), (m0, .inr (ciMA, [.ref mn, .ref mb])), (mn, .inl (cZ, 21, .inl (fun j => bI (mN j)))), (mb, .inl (cZ, 121, .inl (fun j => bI (mB j)))), (q0, .inr (ciRL, [.ref qt, .ref qs, .ref qe, .ref qb, .ref ql, .int (nI nC)])), (qt, .inl (cC, 1000, .inl tT)), (qs, .inl (cI, 60, .inl (fun j => nI (aS j)))), (qe, .inl (cI, 60, .inl (fun j => nI (aE j)))), (qb, .inl (cI, 60, .inl (fun j => nI (aB j)))), (p0, .inr (ciPA, [.ref pb, .ref ps, .int (nI pC)])), (pb, .inl (cC, 120, .inl pB)), (ps, .inl (cI, 21, .inl (fun j => nI (pS j))))] sz) := by
  refine ig_metI (fun (r : Int32) (u : (Nat → Bool) × (Nat → Bool)) => ∃ zr : Nat, r = nI zr ∧ p_IR_decidingDepth mN mB tT aS aE aB pB pS nC pC zr u.1 u.2) (fun (u : (Nat → Bool) × (Nat → Bool)) => [(x0, .inr (ciIR, [.ref qT, .int tl, .ref q0, .ref s0, .ref p0, .ref m0])), (m0, .inr (ciMA, [.ref mn, .ref mb])), (mn, .inl (cZ, 21, .inl (fun j => bI (u.1 j)))), (mb, .inl (cZ, 121, .inl (fun j => bI (u.2 j)))), (q0, .inr (ciRL, [.ref qt, .ref qs, .ref qe, .ref qb, .ref ql, .int (nI nC)])), (qt, .inl (cC, 1000, .inl tT)), (qs, .inl (cI, 60, .inl (fun j => nI (aS j)))), (qe, .inl (cI, 60, .inl (fun j => nI (aE j)))), (qb, .inl (cI, 60, .inl (fun j => nI (aB j)))), (p0, .inr (ciPA, [.ref pb, .ref ps, .int (nI pC)])), (pb, .inl (cC, 120, .inl pB)), (ps, .inl (cI, 21, .inl (fun j => nI (pS j))))]) (by decide) rfl (Nat.le_of_ble_eq_true rfl) rfl (fun _ _ _ => rfl) ?_
  intro zp ze zs zm zargs zbelow zmeth zc zA zQ hx hb hml hown hts hK hN hA hret
  obtain ⟨K2, hK2⟩ : ∃ K : Nat → (Nat → Bool) → (Nat → Bool) → Prop, K = fun (n : Nat) (mNc : Nat → Bool) (mBc : Nat → Bool) => ig_W zp l ze ({ frames := 5, cells := 0, slots := 0, locals := 141 }) zs zm zargs zbelow zmeth zc (dC, dI) ig_cl0 zA zs.heap 2 0 0 zQ 2 [(0, .ref x0), (1, .int (nI n))] [] [(x0, .inr (ciIR, [.ref qT, .int tl, .ref q0, .ref s0, .ref p0, .ref m0])), (m0, .inr (ciMA, [.ref mn, .ref mb])), (mn, .inl (cZ, 21, .inl (fun j => bI (mNc j)))), (mb, .inl (cZ, 121, .inl (fun j => bI (mBc j)))), (q0, .inr (ciRL, [.ref qt, .ref qs, .ref qe, .ref qb, .ref ql, .int (nI nC)])), (qt, .inl (cC, 1000, .inl tT)), (qs, .inl (cI, 60, .inl (fun j => nI (aS j)))), (qe, .inl (cI, 60, .inl (fun j => nI (aE j)))), (qb, .inl (cI, 60, .inl (fun j => nI (aB j)))), (p0, .inr (ciPA, [.ref pb, .ref ps, .int (nI pC)])), (pb, .inl (cC, 120, .inl pB)), (ps, .inl (cI, 21, .inl (fun j => nI (pS j))))] := ⟨_, rfl⟩
  have k2 : ∀ (n : Nat) (mNc : Nat → Bool) (mBc : Nat → Bool), v_IR_decidingDepth_2 mN mB tT aS aE aB pB pS nC pC K2 (p_IR_decidingDepth mN mB tT aS aE aB pB pS nC pC) n mNc mBc → K2 n mNc mBc := by
    intro n mNc mBc hv
    unfold v_IR_decidingDepth_2 at hv
    rw [hK2]
    show ig_W zp l ze ({ frames := 5, cells := 0, slots := 0, locals := 141 }) zs zm zargs zbelow zmeth zc (dC, dI) ig_cl0 zA zs.heap 2 0 0 zQ 2 [(0, .ref x0), (1, .int (nI n))] [] [(x0, .inr (ciIR, [.ref qT, .int tl, .ref q0, .ref s0, .ref p0, .ref m0])), (m0, .inr (ciMA, [.ref mn, .ref mb])), (mn, .inl (cZ, 21, .inl (fun j => bI (mNc j)))), (mb, .inl (cZ, 121, .inl (fun j => bI (mBc j)))), (q0, .inr (ciRL, [.ref qt, .ref qs, .ref qe, .ref qb, .ref ql, .int (nI nC)])), (qt, .inl (cC, 1000, .inl tT)), (qs, .inl (cI, 60, .inl (fun j => nI (aS j)))), (qe, .inl (cI, 60, .inl (fun j => nI (aE j)))), (qb, .inl (cI, 60, .inl (fun j => nI (aB j)))), (p0, .inr (ciPA, [.ref pb, .ref ps, .int (nI pC)])), (pb, .inl (cC, 120, .inl pB)), (ps, .inl (cI, 21, .inl (fun j => nI (pS j))))]
    refine ig_iload_n hx hb 1 d_IR_decidingDepth_2 rfl rfl ?_
    refine ig_aload_n hx hb 0 d_IR_decidingDepth_3 rfl rfl ?_
    refine ig_get hx hb hts in_IR hown hK 0 rfl rfl 4 (by decide) (hts _ kw_0_93) (fun _ h => h) rfl d_IR_decidingDepth_4 ?_
    refine ig_getN hx hb hts in_PA hown hK 9 rfl rfl 2 (by decide) (va_Nw.use rfl (fk_10 hN)) (fun _ h => h) rfl d_IR_decidingDepth_7 ?_
    obtain ⟨h1, hv⟩ := hv
    obtain ⟨h2, hv⟩ := hv
    refine ig_icmp_geN (tgt := 34) hx hb n pC rfl rfl d_IR_decidingDepth_10 (by decide) h1 h2 (fun h => ?_) (fun h => ?_)
    · have hv := hv.1 h
      refine ig_aload_n hx hb 0 d_IR_decidingDepth_34 rfl rfl ?_
      refine ig_get hx hb hts in_IR hown hK 0 rfl rfl 4 (by decide) (hts _ kw_0_93) (fun _ h => h) rfl d_IR_decidingDepth_35 ?_
      refine ig_getN hx hb hts in_PA hown hK 9 rfl rfl 2 (by decide) (va_Nw.use rfl (fk_10 hN)) (fun _ h => h) rfl d_IR_decidingDepth_38 ?_
      exact hret 41 _ (nI pC) (mNc, mBc) d_IR_decidingDepth_41 ⟨pC, rfl, hv⟩
    · have hv := hv.2 h
      refine ig_aload_n hx hb 0 d_IR_decidingDepth_13 rfl rfl ?_
      refine ig_aload_n hx hb 0 d_IR_decidingDepth_14 rfl rfl ?_
      refine ig_iload_n hx hb 1 d_IR_decidingDepth_15 rfl rfl ?_
      refine ig_iconst (v := 1) hx hb d_IR_decidingDepth_16 (by decide) ?_
      obtain ⟨hc, hv⟩ := hv
      refine ig_cVi (As := [.int (nI n), .int 1]) (rest := [.ref x0]) (wr := []) (ws' := fun u => [(x0, .inr (ciIR, [.ref qT, .int tl, .ref q0, .ref s0, .ref p0, .ref m0])), (m0, .inr (ciMA, [.ref mn, .ref mb])), (mn, .inl (cZ, 21, .inl (fun j => bI (u.1 j)))), (mb, .inl (cZ, 121, .inl (fun j => bI (u.2 j)))), (q0, .inr (ciRL, [.ref qt, .ref qs, .ref qe, .ref qb, .ref ql, .int (nI nC)])), (qt, .inl (cC, 1000, .inl tT)), (qs, .inl (cI, 60, .inl (fun j => nI (aS j)))), (qe, .inl (cI, 60, .inl (fun j => nI (aE j)))), (qb, .inl (cI, 60, .inl (fun j => nI (aB j)))), (p0, .inr (ciPA, [.ref pb, .ref ps, .int (nI pC)])), (pb, .inl (cC, 120, .inl pB)), (ps, .inl (cI, 21, .inl (fun j => nI (pS j))))]) hx hb hml hown hts hK hN hA (fun sz => c_IR_lastFitting l dC dI cC cI cZ cL x0 qT q0 s0 p0 m0 mn mb qt qs qe qb ql pb ps tl (nI pC) mNc mBc tT aS aE aB pB pS nC n true sz hc) ⟨callB_of 2 hts g_IR_lastFitting rfl rfl rfl (hts _ kw_0_1) (hts _ kw_1_92) (by decide +kernel) (by decide), (hts _ kw_1_94), (hts _ ks_IR_lastFitting)⟩ rfl rfl (Nat.le_of_ble_eq_true rfl) d_IR_decidingDepth_17 (by decide) 0 rfl rfl [0, 1, 2, 3, 4, 5, 6, 7, 8, 9, 10, 11] [] [0, 1, 2, 3, 4, 5, 6, 7, 8, 9, 10, 11] rfl rfl (by decide) (by decide) (by decide) (fun _ => rfl) (fun _ => rfl) (fun r u hr => ?_)
      obtain ⟨mN1, mB2⟩ := u
      unfold p_IR_lastFitting at hr
      subst hr
      have hv := hv mN1 mB2
      obtain ⟨hc, hv⟩ := hv
      refine ig_cVi (As := [.int (sp_lfit tT aS aE aB pB pS nC n true)]) (rest := []) (wr := [(m0, .inr (ciMA, [.ref mn, .ref mb])), (mn, .inl (cZ, 21, .inl (fun j => bI (mN1 j)))), (mb, .inl (cZ, 121, .inl (fun j => bI (mB2 j)))), (qt, .inl (cC, 1000, .inl tT)), (qs, .inl (cI, 60, .inl (fun j => nI (aS j)))), (qe, .inl (cI, 60, .inl (fun j => nI (aE j)))), (p0, .inr (ciPA, [.ref pb, .ref ps, .int (nI pC)])), (pb, .inl (cC, 120, .inl pB)), (ps, .inl (cI, 21, .inl (fun j => nI (pS j))))]) (ws' := fun u => [(x0, .inr (ciIR, [.ref qT, .int tl, .ref q0, .ref s0, .ref p0, .ref m0])), (m0, .inr (ciMA, [.ref mn, .ref mb])), (mn, .inl (cZ, 21, .inl (fun j => bI (mN1 j)))), (mb, .inl (cZ, 121, .inl (fun j => bI (mB2 j)))), (q0, .inr (ciRL, [.ref qt, .ref qs, .ref qe, .ref qb, .ref ql, .int (nI nC)])), (qt, .inl (cC, 1000, .inl tT)), (qs, .inl (cI, 60, .inl (fun j => nI (aS j)))), (qe, .inl (cI, 60, .inl (fun j => nI (aE j)))), (qb, .inl (cI, 60, .inl (fun j => nI (aB j)))), (p0, .inr (ciPA, [.ref pb, .ref ps, .int (nI pC)])), (pb, .inl (cC, 120, .inl pB)), (ps, .inl (cI, 21, .inl (fun j => nI (pS j))))]) hx hb hml hown hts hK hN hA (fun sz => c_IR_leavesOut l dC dI cC cI cZ cL x0 qT q0 s0 p0 m0 qt qs qe qb ql tl (nI nC) aB (sp_lfit tT aS aE aB pB pS nC n true) sz hc) ⟨callB_of 1 hts g_IR_leavesOut rfl rfl rfl (hts _ kw_0_1) (hts _ kw_1_96) (by decide +kernel) (by decide), (hts _ kw_1_98), (hts _ ks_IR_leavesOut)⟩ rfl rfl (Nat.le_of_ble_eq_true rfl) d_IR_decidingDepth_20 (by decide) 0 rfl rfl [0, 4, 8] [1, 2, 3, 5, 6, 7, 9, 10, 11] [9, 0, 1, 2, 10, 3, 4, 5, 11, 6, 7, 8] rfl rfl (by decide) (by decide) (by decide) (fun _ => rfl) (fun _ => rfl) (fun r u hr => ?_)
      obtain ⟨rr, rfl, hr⟩ := hr
      unfold p_IR_leavesOut at hr
      subst hr
      refine ig_if_eqB (tgt := 28) hx hb (sp_lo aB (sp_lfit tT aS aE aB pB pS nC n true)) rfl d_IR_decidingDepth_23 (by decide) (fun h => ?_) (fun h => ?_)
      · have hv := hv.1 h
        refine ig_iinc (v := (nI (n + 1))) (lv' := [(1, .int (nI (n + 1))), (0, .ref x0)]) hx hb 1 d_IR_decidingDepth_28 rfl (ig_inc n 1 (by decide)) (by decide) rfl ?_
        refine ig_goto (tgt := 2) hx hb d_IR_decidingDepth_31 (by decide) ?_
        refine ig_lv (lv' := [(0, .ref x0), (1, .int (nI (n + 1)))]) [1, 0] rfl ?_
        rw [hK2] at hv
        exact hv
      · have hv := hv.2 h
        refine ig_iload_n hx hb 1 d_IR_decidingDepth_26 rfl rfl ?_
        exact hret 27 _ (nI n) (mN1, mB2) d_IR_decidingDepth_27 ⟨n, rfl, hv⟩
  have hv := t_IR_decidingDepth mN mB tT aS aE aB pB pS nC pC hr K2 k2
  unfold v_IR_decidingDepth at hv
  refine ig_iconst (v := 1) hx hb d_IR_decidingDepth_0 (by decide) ?_
  refine ig_istore_n (lv' := [(1, .int 1), (0, .ref x0)]) hx hb d_IR_decidingDepth_1 rfl (by decide) rfl ?_
  refine ig_lv (lv' := [(0, .ref x0), (1, .int 1)]) [1, 0] rfl ?_
  rw [hK2] at hv
  exact hv
theorem d_IR_wipe_0 : decode b_IR_wipe 0 = .ok (.aload_n 0, 1) := by decide +kernel
theorem d_IR_wipe_1 : decode b_IR_wipe 1 = .ok (.getfield 44, 3) := by decide +kernel
theorem d_IR_wipe_4 : decode b_IR_wipe 4 = .ok (.istore_n 1, 1) := by decide +kernel
theorem d_IR_wipe_5 : decode b_IR_wipe 5 = .ok (.aload_n 0, 1) := by decide +kernel
theorem d_IR_wipe_6 : decode b_IR_wipe 6 = .ok (.iconst 0, 1) := by decide +kernel
theorem d_IR_wipe_7 : decode b_IR_wipe 7 = .ok (.putfield 44, 3) := by decide +kernel
theorem d_IR_wipe_10 : decode b_IR_wipe 10 = .ok (.iload_n 1, 1) := by decide +kernel
theorem d_IR_wipe_11 : decode b_IR_wipe 11 = .ok (.ireturn, 1) := by decide +kernel
abbrev w_IR_wipe : List Cond := Cond.code y_IR_wipe b_IR_wipe 2 (some .int) :: ig_T
theorem g_IR_wipe : GoodIn ig_T w_IR_wipe := ig_T_good (ig_T_mem (List.mem_append_left _ (List.mem_of_getElem? (i := 111) rfl)) rfl)
set_option maxHeartbeats 4000000 in
set_option maxRecDepth 100000 in
theorem c_IR_wipe (l : Launch) (dC : Nat → ClassId) (dI : Nat → Nat → Nat) (cC cI cZ cL : ClassId) (x0 qT q0 s0 p0 m0 : Nat)  (tl : Nat) (sz : Nat) : Met l y_IR_wipe w_IR_wipe ({ frames := 0, cells := 0, slots := 0, locals := 0 }) (ig_Pc (dC, dI) ig_cl0 [(cC, .char), (cI, .int), (cZ, .boolean), (cL, .long)] [.ref x0] [(x0, .inr (ciIR, [.ref qT, .int (nI tl), .ref q0, .ref s0, .ref p0, .ref m0]))] sz) (va_Qi (fun (r : Int32) (u : Nat) => ∃ zr : Nat, r = nI zr ∧ p_IR_wipe tl zr u) (fun u t => va_P (dC, dI) ig_cl0 ((fun (u : Nat) => [(x0, .inr (ciIR, [.ref qT, .int (nI u), .ref q0, .ref s0, .ref p0, .ref m0]))]) u) t.heap ∧ va_D (va_A [(x0, .inr (ciIR, [.ref qT, .int (nI tl), .ref q0, .ref s0, .ref p0, .ref m0]))] sz) ((fun (u : Nat) => [(x0, .inr (ciIR, [.ref qT, .int (nI u), .ref q0, .ref s0, .ref p0, .ref m0]))]) u)) (va_A [(x0, .inr (ciIR, [.ref qT, .int (nI tl), .ref q0, .ref s0, .ref p0, .ref m0]))] sz)) 0 0 (va_A [(x0, .inr (ciIR, [.ref qT, .int (nI tl), .ref q0, .ref s0, .ref p0, .ref m0]))] sz) := by
  refine ig_metI (fun (r : Int32) (u : Nat) => ∃ zr : Nat, r = nI zr ∧ p_IR_wipe tl zr u) (fun (u : Nat) => [(x0, .inr (ciIR, [.ref qT, .int (nI u), .ref q0, .ref s0, .ref p0, .ref m0]))]) (by decide) rfl (Nat.le_of_ble_eq_true rfl) rfl (fun _ _ _ => rfl) ?_
  intro zp ze zs zm zargs zbelow zmeth zc zA zQ hx hb hml hown hts hK hN hA hret
  have hv := t_IR_wipe tl 
  unfold v_IR_wipe at hv
  refine ig_aload_n hx hb 0 d_IR_wipe_0 rfl rfl ?_
  refine ig_get hx hb hts in_IR hown hK 0 rfl rfl 1 (by decide) (hts _ kw_0_90) (fun _ h => h) rfl d_IR_wipe_1 ?_
  refine ig_istore_n (lv' := [(1, .int (nI tl)), (0, .ref x0)]) hx hb d_IR_wipe_4 rfl (by decide) rfl ?_
  refine ig_aload_n hx hb 1 d_IR_wipe_5 rfl rfl ?_
  refine ig_iconst (v := 0) hx hb d_IR_wipe_6 (by decide) ?_
  refine ig_put (ty := .int) (v := .int 0) (ws' := [(x0, .inr (ciIR, [.ref qT, .int (nI 0), .ref q0, .ref s0, .ref p0, .ref m0]))]) hx hb hts in_IR t_IR t_IR_ok n_IR hown hK 0 rfl rfl 1 (by decide) (hts _ kw_0_90) (fun _ h => h) rfl (by decide +kernel) rfl rfl (Nat.le_of_ble_eq_true rfl) d_IR_wipe_7 rfl ?_
  refine ig_iload_n hx hb 0 d_IR_wipe_10 rfl rfl ?_
  exact hret 11 _ (nI tl) 0 d_IR_wipe_11 ⟨tl, rfl, hv⟩
theorem d_IR_path_0 : decode b_IR_path 0 = .ok (.aload_n 0, 1) := by decide +kernel
theorem d_IR_path_1 : decode b_IR_path 1 = .ok (.getfield 26, 3) := by decide +kernel
theorem d_IR_path_4 : decode b_IR_path 4 = .ok (.aload_n 0, 1) := by decide +kernel
theorem d_IR_path_5 : decode b_IR_path 5 = .ok (.getfield 9, 3) := by decide +kernel
theorem d_IR_path_8 : decode b_IR_path 8 = .ok (.aload_n 0, 1) := by decide +kernel
theorem d_IR_path_9 : decode b_IR_path 9 = .ok (.getfield 44, 3) := by decide +kernel
theorem d_IR_path_12 : decode b_IR_path 12 = .ok (.invokevirtual 74, 3) := by decide +kernel
theorem d_IR_path_15 : decode b_IR_path 15 = .ok (.ifCond .ne 5, 3) := by decide +kernel
theorem d_IR_path_18 : decode b_IR_path 18 = .ok (.iconst (-1), 1) := by decide +kernel
theorem d_IR_path_19 : decode b_IR_path 19 = .ok (.ireturn, 1) := by decide +kernel
theorem d_IR_path_20 : decode b_IR_path 20 = .ok (.aload_n 0, 1) := by decide +kernel
theorem d_IR_path_21 : decode b_IR_path 21 = .ok (.iconst 0, 1) := by decide +kernel
theorem d_IR_path_22 : decode b_IR_path 22 = .ok (.putfield 44, 3) := by decide +kernel
theorem d_IR_path_25 : decode b_IR_path 25 = .ok (.aload_n 0, 1) := by decide +kernel
theorem d_IR_path_26 : decode b_IR_path 26 = .ok (.getfield 26, 3) := by decide +kernel
theorem d_IR_path_29 : decode b_IR_path 29 = .ok (.getfield 75, 3) := by decide +kernel
theorem d_IR_path_32 : decode b_IR_path 32 = .ok (.ireturn, 1) := by decide +kernel
abbrev w_IR_path : List Cond := Cond.code y_IR_path b_IR_path 1 (some .int) :: ig_T
theorem g_IR_path : GoodIn ig_T w_IR_path := ig_T_good (ig_T_mem (List.mem_append_left _ (List.mem_of_getElem? (i := 149) rfl)) rfl)
set_option maxHeartbeats 4000000 in
set_option maxRecDepth 100000 in
theorem c_IR_path (l : Launch) (dC : Nat → ClassId) (dI : Nat → Nat → Nat) (cC cI cZ cL : ClassId) (x0 qT q0 s0 p0 m0 pb ps : Nat)  (tl : Nat) (pC : Nat) (pB : Nat → Int32) (pS : Nat → Nat) (tA : Nat → Int32) (sz : Nat) (hr : r_IR_path tl pC pB pS tA) : Met l y_IR_path w_IR_path ({ frames := 1, cells := 0, slots := 0, locals := 24 }) (ig_Pc (dC, dI) ig_cl0 [(cC, .char), (cI, .int), (cZ, .boolean), (cL, .long)] [.ref x0] [(x0, .inr (ciIR, [.ref qT, .int (nI tl), .ref q0, .ref s0, .ref p0, .ref m0])), (p0, .inr (ciPA, [.ref pb, .ref ps, .int (nI pC)])), (pb, .inl (cC, 120, .inl pB)), (ps, .inl (cI, 21, .inl (fun j => nI (pS j)))), (qT, .inl (cC, 1000, .inl tA))] sz) (va_Qi (fun (r : Int32) (u : Nat × Nat × (Nat → Int32) × (Nat → Nat)) => p_IR_path tl pC pB pS tA r u.1 u.2.1 u.2.2.1 u.2.2.2) (fun u t => va_P (dC, dI) ig_cl0 ((fun (u : Nat × Nat × (Nat → Int32) × (Nat → Nat)) => [(x0, .inr (ciIR, [.ref qT, .int (nI u.1), .ref q0, .ref s0, .ref p0, .ref m0])), (p0, .inr (ciPA, [.ref pb, .ref ps, .int (nI u.2.1)])), (pb, .inl (cC, 120, .inl u.2.2.1)), (ps, .inl (cI, 21, .inl (fun j => nI (u.2.2.2 j)))), (qT, .inl (cC, 1000, .inl tA))]) u) t.heap ∧ va_D (va_A [(x0, .inr (ciIR, [.ref qT, .int (nI tl), .ref q0, .ref s0, .ref p0, .ref m0])), (p0, .inr (ciPA, [.ref pb, .ref ps, .int (nI pC)])), (pb, .inl (cC, 120, .inl pB)), (ps, .inl (cI, 21, .inl (fun j => nI (pS j)))), (qT, .inl (cC, 1000, .inl tA))] sz) ((fun (u : Nat × Nat × (Nat → Int32) × (Nat → Nat)) => [(x0, .inr (ciIR, [.ref qT, .int (nI u.1), .ref q0, .ref s0, .ref p0, .ref m0])), (p0, .inr (ciPA, [.ref pb, .ref ps, .int (nI u.2.1)])), (pb, .inl (cC, 120, .inl u.2.2.1)), (ps, .inl (cI, 21, .inl (fun j => nI (u.2.2.2 j)))), (qT, .inl (cC, 1000, .inl tA))]) u)) (va_A [(x0, .inr (ciIR, [.ref qT, .int (nI tl), .ref q0, .ref s0, .ref p0, .ref m0])), (p0, .inr (ciPA, [.ref pb, .ref ps, .int (nI pC)])), (pb, .inl (cC, 120, .inl pB)), (ps, .inl (cI, 21, .inl (fun j => nI (pS j)))), (qT, .inl (cC, 1000, .inl tA))] sz)) 0 0 (va_A [(x0, .inr (ciIR, [.ref qT, .int (nI tl), .ref q0, .ref s0, .ref p0, .ref m0])), (p0, .inr (ciPA, [.ref pb, .ref ps, .int (nI pC)])), (pb, .inl (cC, 120, .inl pB)), (ps, .inl (cI, 21, .inl (fun j => nI (pS j)))), (qT, .inl (cC, 1000, .inl tA))] sz) := by
  refine ig_metI (fun (r : Int32) (u : Nat × Nat × (Nat → Int32) × (Nat → Nat)) => p_IR_path tl pC pB pS tA r u.1 u.2.1 u.2.2.1 u.2.2.2) (fun (u : Nat × Nat × (Nat → Int32) × (Nat → Nat)) => [(x0, .inr (ciIR, [.ref qT, .int (nI u.1), .ref q0, .ref s0, .ref p0, .ref m0])), (p0, .inr (ciPA, [.ref pb, .ref ps, .int (nI u.2.1)])), (pb, .inl (cC, 120, .inl u.2.2.1)), (ps, .inl (cI, 21, .inl (fun j => nI (u.2.2.2 j)))), (qT, .inl (cC, 1000, .inl tA))]) (by decide) rfl (Nat.le_of_ble_eq_true rfl) rfl (fun _ _ _ => rfl) ?_
  intro zp ze zs zm zargs zbelow zmeth zc zA zQ hx hb hml hown hts hK hN hA hret
  have hv := t_IR_path tl pC pB pS tA hr 
  unfold v_IR_path at hv
  refine ig_aload_n hx hb 0 d_IR_path_0 rfl rfl ?_
  refine ig_get hx hb hts in_IR hown hK 0 rfl rfl 4 (by decide) (hts _ kw_0_93) (fun _ h => h) rfl d_IR_path_1 ?_
  refine ig_aload_n hx hb 0 d_IR_path_4 rfl rfl ?_
  refine ig_get hx hb hts in_IR hown hK 0 rfl rfl 0 (by decide) (hts _ kw_0_89) (fun _ h => h) rfl d_IR_path_5 ?_
  refine ig_aload_n hx hb 0 d_IR_path_8 rfl rfl ?_
  refine ig_get hx hb hts in_IR hown hK 0 rfl rfl 1 (by decide) (hts _ kw_0_90) (fun _ h => h) rfl d_IR_path_9 ?_
  obtain ⟨hc, hv⟩ := hv
  refine ig_cVNi (As := [.ref qT, .int (nI tl)]) (rest := []) (wr := [(x0, .inr (ciIR, [.ref qT, .int (nI tl), .ref q0, .ref s0, .ref p0, .ref m0]))]) (ws' := fun u => [(x0, .inr (ciIR, [.ref qT, .int (nI tl), .ref q0, .ref s0, .ref p0, .ref m0])), (p0, .inr (ciPA, [.ref pb, .ref ps, .int (nI u.1)])), (pb, .inl (cC, 120, .inl u.2.1)), (ps, .inl (cI, 21, .inl (fun j => nI (u.2.2 j)))), (qT, .inl (cC, 1000, .inl tA))]) hx hb hml hown hts hK hN hA (fun sz => c_PA_load l dC dI cC cI cZ cL p0 pb ps qT pC pB pS tA tl sz hc) ⟨va_cnB 2 hts g_PA_load rfl rfl rfl (nk_5 hN) (hts _ kw_0_3) (by decide +kernel) (by decide), (hts _ kw_0_152), (hts _ ks_PA_load)⟩ rfl rfl (Nat.le_of_ble_eq_true rfl) d_IR_path_12 (by decide) 0 rfl rfl [1, 2, 3, 4] [0] [0, 1, 2, 3, 4] rfl rfl (by decide) (by decide) (by decide) (fun _ => rfl) (fun _ => rfl) (fun r u hr => ?_)
  obtain ⟨pC1, pB2, pS3⟩ := u
  obtain ⟨r4, rfl, hr⟩ := hr
  unfold p_PA_load at hr
  have hv := hv r4 pC1 pB2 pS3 hr
  refine ig_if_neB (tgt := 20) hx hb r4 rfl d_IR_path_15 (by decide) (fun h => ?_) (fun h => ?_)
  · have hv := hv.1 h
    refine ig_aload_n hx hb 0 d_IR_path_20 rfl rfl ?_
    refine ig_iconst (v := 0) hx hb d_IR_path_21 (by decide) ?_
    refine ig_put (ty := .int) (v := .int 0) (ws' := [(x0, .inr (ciIR, [.ref qT, .int (nI 0), .ref q0, .ref s0, .ref p0, .ref m0])), (p0, .inr (ciPA, [.ref pb, .ref ps, .int (nI pC1)])), (pb, .inl (cC, 120, .inl pB2)), (ps, .inl (cI, 21, .inl (fun j => nI (pS3 j)))), (qT, .inl (cC, 1000, .inl tA))]) hx hb hts in_IR t_IR t_IR_ok n_IR hown hK 0 rfl rfl 1 (by decide) (hts _ kw_0_90) (fun _ h => h) rfl (by decide +kernel) rfl rfl (Nat.le_of_ble_eq_true rfl) d_IR_path_22 rfl ?_
    refine ig_aload_n hx hb 0 d_IR_path_25 rfl rfl ?_
    refine ig_get hx hb hts in_IR hown hK 0 rfl rfl 4 (by decide) (hts _ kw_0_93) (fun _ h => h) rfl d_IR_path_26 ?_
    refine ig_getN hx hb hts in_PA hown hK 1 rfl rfl 2 (by decide) (va_Nw.use rfl (fk_10 hN)) (fun _ h => h) rfl d_IR_path_29 ?_
    exact hret 32 _ (nI pC1) (0, pC1, pB2, pS3) d_IR_path_32 hv
  · have hv := hv.2 h
    refine ig_iconst (v := (-1)) hx hb d_IR_path_18 (by decide) ?_
    exact hret 19 _ (-1) (tl, pC1, pB2, pS3) d_IR_path_19 hv
theorem d_IR_read_0 : decode b_IR_read 0 = .ok (.aload_n 0, 1) := by decide +kernel
theorem d_IR_read_1 : decode b_IR_read 1 = .ok (.getfield 20, 3) := by decide +kernel
theorem d_IR_read_4 : decode b_IR_read 4 = .ok (.aload_n 0, 1) := by decide +kernel
theorem d_IR_read_5 : decode b_IR_read 5 = .ok (.getfield 9, 3) := by decide +kernel
theorem d_IR_read_8 : decode b_IR_read 8 = .ok (.aload_n 0, 1) := by decide +kernel
theorem d_IR_read_9 : decode b_IR_read 9 = .ok (.getfield 44, 3) := by decide +kernel
theorem d_IR_read_12 : decode b_IR_read 12 = .ok (.invokevirtual 50, 3) := by decide +kernel
theorem d_IR_read_15 : decode b_IR_read 15 = .ok (.ifCond .ne 5, 3) := by decide +kernel
theorem d_IR_read_18 : decode b_IR_read 18 = .ok (.iconst (-1), 1) := by decide +kernel
theorem d_IR_read_19 : decode b_IR_read 19 = .ok (.ireturn, 1) := by decide +kernel
theorem d_IR_read_20 : decode b_IR_read 20 = .ok (.aload_n 0, 1) := by decide +kernel
theorem d_IR_read_21 : decode b_IR_read 21 = .ok (.getfield 16, 3) := by decide +kernel
theorem d_IR_read_24 : decode b_IR_read 24 = .ok (.astore_n 1, 1) := by decide +kernel
theorem d_IR_read_25 : decode b_IR_read 25 = .ok (.aload_n 0, 1) := by decide +kernel
theorem d_IR_read_26 : decode b_IR_read 26 = .ok (.aload_n 0, 1) := by decide +kernel
theorem d_IR_read_27 : decode b_IR_read 27 = .ok (.getfield 20, 3) := by decide +kernel
theorem d_IR_read_30 : decode b_IR_read 30 = .ok (.putfield 16, 3) := by decide +kernel
theorem d_IR_read_33 : decode b_IR_read 33 = .ok (.aload_n 0, 1) := by decide +kernel
theorem d_IR_read_34 : decode b_IR_read 34 = .ok (.aload_n 1, 1) := by decide +kernel
theorem d_IR_read_35 : decode b_IR_read 35 = .ok (.putfield 20, 3) := by decide +kernel
theorem d_IR_read_38 : decode b_IR_read 38 = .ok (.aload_n 0, 1) := by decide +kernel
theorem d_IR_read_39 : decode b_IR_read 39 = .ok (.iconst 0, 1) := by decide +kernel
theorem d_IR_read_40 : decode b_IR_read 40 = .ok (.putfield 44, 3) := by decide +kernel
theorem d_IR_read_43 : decode b_IR_read 43 = .ok (.aload_n 0, 1) := by decide +kernel
theorem d_IR_read_44 : decode b_IR_read 44 = .ok (.getfield 16, 3) := by decide +kernel
theorem d_IR_read_47 : decode b_IR_read 47 = .ok (.getfield 54, 3) := by decide +kernel
theorem d_IR_read_50 : decode b_IR_read 50 = .ok (.ireturn, 1) := by decide +kernel
abbrev w_IR_read : List Cond := Cond.code y_IR_read b_IR_read 2 (some .int) :: ig_T
theorem g_IR_read : GoodIn ig_T w_IR_read := ig_T_good (ig_T_mem (List.mem_append_left _ (List.mem_of_getElem? (i := 115) rfl)) rfl)
set_option maxHeartbeats 4000000 in
set_option maxRecDepth 100000 in
theorem c_IR_read (l : Launch) (dC : Nat → ClassId) (dI : Nat → Nat → Nat) (cC cI cZ cL : ClassId) (x0 qT q0 s0 p0 m0 st ss se sb sl : Nat)  (tl : Nat) (tA : Nat → Int32) (uT : Nat → Int32) (uS : Nat → Nat) (uE : Nat → Nat) (uB : Nat → Nat) (uL : Nat → Nat) (uN : Nat) (sz : Nat) (hr : r_IR_read tl tA uT uS uE uB uL uN) : Met l y_IR_read w_IR_read ({ frames := 5, cells := 0, slots := 0, locals := 125 }) (ig_Pc (dC, dI) ig_cl0 [(cC, .char), (cI, .int), (cZ, .boolean), (cL, .long)] [.ref x0] [(x0, .inr (ciIR, [.ref qT, .int (nI tl), .ref q0, .ref s0, .ref p0, .ref m0])), (qT, .inl (cC, 1000, .inl tA)), (s0, .inr (ciRL, [.ref st, .ref ss, .ref se, .ref sb, .ref sl, .int (nI uN)])), (st, .inl (cC, 1000, .inl uT)), (ss, .inl (cI, 60, .inl (fun j => nI (uS j)))), (se, .inl (cI, 60, .inl (fun j => nI (uE j)))), (sb, .inl (cI, 60, .inl (fun j => nI (uB j)))), (sl, .inl (cI, 60, .inl (fun j => nI (uL j))))] sz) (va_Qi (fun (r : Int32) (u : Bool × Nat × (Nat → Int32) × (Nat → Nat) × (Nat → Nat) × (Nat → Nat) × (Nat → Nat) × Nat) => p_IR_read tl tA uT uS uE uB uL uN r u.1 u.2.1 u.2.2.1 u.2.2.2.1 u.2.2.2.2.1 u.2.2.2.2.2.1 u.2.2.2.2.2.2.1 u.2.2.2.2.2.2.2) (fun u t => va_P (dC, dI) ig_cl0 ((fun (u : Bool × Nat × (Nat → Int32) × (Nat → Nat) × (Nat → Nat) × (Nat → Nat) × (Nat → Nat) × Nat) => [(x0, .inr (ciIR, [.ref qT, .int (nI u.2.1), .ref (cond u.1 s0 q0), .ref (cond u.1 q0 s0), .ref p0, .ref m0])), (qT, .inl (cC, 1000, .inl tA)), (s0, .inr (ciRL, [.ref st, .ref ss, .ref se, .ref sb, .ref sl, .int (nI u.2.2.2.2.2.2.2)])), (st, .inl (cC, 1000, .inl u.2.2.1)), (ss, .inl (cI, 60, .inl (fun j => nI (u.2.2.2.1 j)))), (se, .inl (cI, 60, .inl (fun j => nI (u.2.2.2.2.1 j)))), (sb, .inl (cI, 60, .inl (fun j => nI (u.2.2.2.2.2.1 j)))), (sl, .inl (cI, 60, .inl (fun j => nI (u.2.2.2.2.2.2.1 j))))]) u) t.heap ∧ va_D (va_A [(x0, .inr (ciIR, [.ref qT, .int (nI tl), .ref q0, .ref s0, .ref p0, .ref m0])), (qT, .inl (cC, 1000, .inl tA)), (s0, .inr (ciRL, [.ref st, .ref ss, .ref se, .ref sb, .ref sl, .int (nI uN)])), (st, .inl (cC, 1000, .inl uT)), (ss, .inl (cI, 60, .inl (fun j => nI (uS j)))), (se, .inl (cI, 60, .inl (fun j => nI (uE j)))), (sb, .inl (cI, 60, .inl (fun j => nI (uB j)))), (sl, .inl (cI, 60, .inl (fun j => nI (uL j))))] sz) ((fun (u : Bool × Nat × (Nat → Int32) × (Nat → Nat) × (Nat → Nat) × (Nat → Nat) × (Nat → Nat) × Nat) => [(x0, .inr (ciIR, [.ref qT, .int (nI u.2.1), .ref (cond u.1 s0 q0), .ref (cond u.1 q0 s0), .ref p0, .ref m0])), (qT, .inl (cC, 1000, .inl tA)), (s0, .inr (ciRL, [.ref st, .ref ss, .ref se, .ref sb, .ref sl, .int (nI u.2.2.2.2.2.2.2)])), (st, .inl (cC, 1000, .inl u.2.2.1)), (ss, .inl (cI, 60, .inl (fun j => nI (u.2.2.2.1 j)))), (se, .inl (cI, 60, .inl (fun j => nI (u.2.2.2.2.1 j)))), (sb, .inl (cI, 60, .inl (fun j => nI (u.2.2.2.2.2.1 j)))), (sl, .inl (cI, 60, .inl (fun j => nI (u.2.2.2.2.2.2.1 j))))]) u)) (va_A [(x0, .inr (ciIR, [.ref qT, .int (nI tl), .ref q0, .ref s0, .ref p0, .ref m0])), (qT, .inl (cC, 1000, .inl tA)), (s0, .inr (ciRL, [.ref st, .ref ss, .ref se, .ref sb, .ref sl, .int (nI uN)])), (st, .inl (cC, 1000, .inl uT)), (ss, .inl (cI, 60, .inl (fun j => nI (uS j)))), (se, .inl (cI, 60, .inl (fun j => nI (uE j)))), (sb, .inl (cI, 60, .inl (fun j => nI (uB j)))), (sl, .inl (cI, 60, .inl (fun j => nI (uL j))))] sz)) 0 0 (va_A [(x0, .inr (ciIR, [.ref qT, .int (nI tl), .ref q0, .ref s0, .ref p0, .ref m0])), (qT, .inl (cC, 1000, .inl tA)), (s0, .inr (ciRL, [.ref st, .ref ss, .ref se, .ref sb, .ref sl, .int (nI uN)])), (st, .inl (cC, 1000, .inl uT)), (ss, .inl (cI, 60, .inl (fun j => nI (uS j)))), (se, .inl (cI, 60, .inl (fun j => nI (uE j)))), (sb, .inl (cI, 60, .inl (fun j => nI (uB j)))), (sl, .inl (cI, 60, .inl (fun j => nI (uL j))))] sz) := by
  refine ig_metI (fun (r : Int32) (u : Bool × Nat × (Nat → Int32) × (Nat → Nat) × (Nat → Nat) × (Nat → Nat) × (Nat → Nat) × Nat) => p_IR_read tl tA uT uS uE uB uL uN r u.1 u.2.1 u.2.2.1 u.2.2.2.1 u.2.2.2.2.1 u.2.2.2.2.2.1 u.2.2.2.2.2.2.1 u.2.2.2.2.2.2.2) (fun (u : Bool × Nat × (Nat → Int32) × (Nat → Nat) × (Nat → Nat) × (Nat → Nat) × (Nat → Nat) × Nat) => [(x0, .inr (ciIR, [.ref qT, .int (nI u.2.1), .ref (cond u.1 s0 q0), .ref (cond u.1 q0 s0), .ref p0, .ref m0])), (qT, .inl (cC, 1000, .inl tA)), (s0, .inr (ciRL, [.ref st, .ref ss, .ref se, .ref sb, .ref sl, .int (nI u.2.2.2.2.2.2.2)])), (st, .inl (cC, 1000, .inl u.2.2.1)), (ss, .inl (cI, 60, .inl (fun j => nI (u.2.2.2.1 j)))), (se, .inl (cI, 60, .inl (fun j => nI (u.2.2.2.2.1 j)))), (sb, .inl (cI, 60, .inl (fun j => nI (u.2.2.2.2.2.1 j)))), (sl, .inl (cI, 60, .inl (fun j => nI (u.2.2.2.2.2.2.1 j))))]) (by decide) rfl (Nat.le_of_ble_eq_true rfl) rfl (fun _ _ _ => rfl) ?_
  intro zp ze zs zm zargs zbelow zmeth zc zA zQ hx hb hml hown hts hK hN hA hret
  have hv := t_IR_read tl tA uT uS uE uB uL uN hr 
  unfold v_IR_read at hv
  refine ig_aload_n hx hb 0 d_IR_read_0 rfl rfl ?_
  refine ig_get hx hb hts in_IR hown hK 0 rfl rfl 3 (by decide) (hts _ kw_0_92) (fun _ h => h) rfl d_IR_read_1 ?_
  refine ig_aload_n hx hb 0 d_IR_read_4 rfl rfl ?_
  refine ig_get hx hb hts in_IR hown hK 0 rfl rfl 0 (by decide) (hts _ kw_0_89) (fun _ h => h) rfl d_IR_read_5 ?_
  refine ig_aload_n hx hb 0 d_IR_read_8 rfl rfl ?_
  refine ig_get hx hb hts in_IR hown hK 0 rfl rfl 1 (by decide) (hts _ kw_0_90) (fun _ h => h) rfl d_IR_read_9 ?_
  obtain ⟨hc, hv⟩ := hv
  refine ig_cVNi (As := [.ref qT, .int (nI tl)]) (rest := []) (wr := [(x0, .inr (ciIR, [.ref qT, .int (nI tl), .ref q0, .ref s0, .ref p0, .ref m0]))]) (ws' := fun u => [(x0, .inr (ciIR, [.ref qT, .int (nI tl), .ref q0, .ref s0, .ref p0, .ref m0])), (qT, .inl (cC, 1000, .inl tA)), (s0, .inr (ciRL, [.ref st, .ref ss, .ref se, .ref sb, .ref sl, .int (nI u.2.2.2.2.2)])), (st, .inl (cC, 1000, .inl u.1)), (ss, .inl (cI, 60, .inl (fun j => nI (u.2.1 j)))), (se, .inl (cI, 60, .inl (fun j => nI (u.2.2.1 j)))), (sb, .inl (cI, 60, .inl (fun j => nI (u.2.2.2.1 j)))), (sl, .inl (cI, 60, .inl (fun j => nI (u.2.2.2.2.1 j))))]) hx hb hml hown hts hK hN hA (fun sz => c_RL_load l dC dI cC cI cZ cL s0 st ss se sb sl qT uT uS uE uB uL uN tA tl sz hc) ⟨va_cnB 2 hts g_RL_load rfl rfl rfl (nk_3 hN) (hts _ kw_0_2) (by decide +kernel) (by decide), (hts _ kw_0_118), (hts _ ks_RL_load)⟩ rfl rfl (Nat.le_of_ble_eq_true rfl) d_IR_read_12 (by decide) 0 rfl rfl [2, 3, 4, 5, 6, 7, 1] [0] [0, 7, 1, 2, 3, 4, 5, 6] rfl rfl (by decide) (by decide) (by decide) (fun _ => rfl) (fun _ => rfl) (fun r u hr => ?_)
  obtain ⟨tT1, aS2, aE3, aB4, aL5, nC6⟩ := u
  obtain ⟨r7, rfl, hr⟩ := hr
  unfold p_RL_load at hr
  have hv := hv r7 tT1 aS2 aE3 aB4 aL5 nC6 hr
  refine ig_if_neB (tgt := 20) hx hb r7 rfl d_IR_read_15 (by decide) (fun h => ?_) (fun h => ?_)
  · have hv := hv.1 h
    refine ig_aload_n hx hb 0 d_IR_read_20 rfl rfl ?_
    refine ig_get hx hb hts in_IR hown hK 0 rfl rfl 2 (by decide) (hts _ kw_0_91) (fun _ h => h) rfl d_IR_read_21 ?_
    refine ig_astore_n (lv' := [(1, .ref q0), (0, .ref x0)]) hx hb d_IR_read_24 rfl (by decide) rfl ?_
    refine ig_aload_n hx hb 1 d_IR_read_25 rfl rfl ?_
    refine ig_aload_n hx hb 1 d_IR_read_26 rfl rfl ?_
    refine ig_get hx hb hts in_IR hown hK 0 rfl rfl 3 (by decide) (hts _ kw_0_92) (fun _ h => h) rfl d_IR_read_27 ?_
    refine ig_put (ty := (.object "IgnoreRules$RuleList")) (v := .ref s0) (ws' := [(x0, .inr (ciIR, [.ref qT, .int (nI tl), .ref s0, .ref s0, .ref p0, .ref m0])), (qT, .inl (cC, 1000, .inl tA)), (s0, .inr (ciRL, [.ref st, .ref ss, .ref se, .ref sb, .ref sl, .int (nI nC6)])), (st, .inl (cC, 1000, .inl tT1)), (ss, .inl (cI, 60, .inl (fun j => nI (aS2 j)))), (se, .inl (cI, 60, .inl (fun j => nI (aE3 j)))), (sb, .inl (cI, 60, .inl (fun j => nI (aB4 j)))), (sl, .inl (cI, 60, .inl (fun j => nI (aL5 j))))]) hx hb hts in_IR t_IR t_IR_ok n_IR hown hK 0 rfl rfl 2 (by decide) (hts _ kw_0_91) (fun _ h => h) rfl (by decide +kernel) rfl rfl (Nat.le_of_ble_eq_true rfl) d_IR_read_30 rfl ?_
    refine ig_aload_n hx hb 1 d_IR_read_33 rfl rfl ?_
    refine ig_aload_n hx hb 0 d_IR_read_34 rfl rfl ?_
    refine ig_put (ty := (.object "IgnoreRules$RuleList")) (v := .ref q0) (ws' := [(x0, .inr (ciIR, [.ref qT, .int (nI tl), .ref s0, .ref q0, .ref p0, .ref m0])), (qT, .inl (cC, 1000, .inl tA)), (s0, .inr (ciRL, [.ref st, .ref ss, .ref se, .ref sb, .ref sl, .int (nI nC6)])), (st, .inl (cC, 1000, .inl tT1)), (ss, .inl (cI, 60, .inl (fun j => nI (aS2 j)))), (se, .inl (cI, 60, .inl (fun j => nI (aE3 j)))), (sb, .inl (cI, 60, .inl (fun j => nI (aB4 j)))), (sl, .inl (cI, 60, .inl (fun j => nI (aL5 j))))]) hx hb hts in_IR t_IR t_IR_ok n_IR hown hK 0 rfl rfl 3 (by decide) (hts _ kw_0_92) (fun _ h => h) rfl (by decide +kernel) rfl rfl (Nat.le_of_ble_eq_true rfl) d_IR_read_35 rfl ?_
    refine ig_aload_n hx hb 1 d_IR_read_38 rfl rfl ?_
    refine ig_iconst (v := 0) hx hb d_IR_read_39 (by decide) ?_
    refine ig_put (ty := .int) (v := .int 0) (ws' := [(x0, .inr (ciIR, [.ref qT, .int (nI 0), .ref s0, .ref q0, .ref p0, .ref m0])), (qT, .inl (cC, 1000, .inl tA)), (s0, .inr (ciRL, [.ref st, .ref ss, .ref se, .ref sb, .ref sl, .int (nI nC6)])), (st, .inl (cC, 1000, .inl tT1)), (ss, .inl (cI, 60, .inl (fun j => nI (aS2 j)))), (se, .inl (cI, 60, .inl (fun j => nI (aE3 j)))), (sb, .inl (cI, 60, .inl (fun j => nI (aB4 j)))), (sl, .inl (cI, 60, .inl (fun j => nI (aL5 j))))]) hx hb hts in_IR t_IR t_IR_ok n_IR hown hK 0 rfl rfl 1 (by decide) (hts _ kw_0_90) (fun _ h => h) rfl (by decide +kernel) rfl rfl (Nat.le_of_ble_eq_true rfl) d_IR_read_40 rfl ?_
    refine ig_aload_n hx hb 1 d_IR_read_43 rfl rfl ?_
    refine ig_get hx hb hts in_IR hown hK 0 rfl rfl 2 (by decide) (hts _ kw_0_91) (fun _ h => h) rfl d_IR_read_44 ?_
    refine ig_getN hx hb hts in_RL hown hK 2 rfl rfl 5 (by decide) (va_Nw.use rfl (fk_7 hN)) (fun _ h => h) rfl d_IR_read_47 ?_
    exact hret 50 _ (nI nC6) (true, 0, tT1, aS2, aE3, aB4, aL5, nC6) d_IR_read_50 hv
  · have hv := hv.2 h
    refine ig_iconst (v := (-1)) hx hb d_IR_read_18 (by decide) ?_
    exact hret 19 _ (-1) (false, tl, tT1, aS2, aE3, aB4, aL5, nC6) d_IR_read_19 hv
end
section
def r_RM_isBehindOdd (tX : Nat → Int32) (f : Nat) (a : Nat) : Prop := f ≤ a ∧ a ≤ 1000
def p_RM_isBehindOdd (tX : Nat → Int32) (f : Nat) (a : Nat) (r : Bool) : Prop := r = (sp_esc tX f a)
def v_RM_isBehindOdd_32 (tX : Nat → Int32) (f : Nat) (a : Nat) (K2 : Nat → Prop) (Q : Bool → Prop) (b : Nat) : Prop := (b < 2 ^ 31) ∧ ((b % 2 < 2147483648) ∧ ((¬ b % 2 = 1 → Q false) ∧ (b % 2 = 1 → Q true)))
def v_RM_isBehindOdd_2 (tX : Nat → Int32) (f : Nat) (a : Nat) (K2 : Nat → Prop) (Q : Bool → Prop) (b : Nat) : Prop := ((((nI a) - 1) - (nI b)) < (nI f) → v_RM_isBehindOdd_32 tX f a K2 Q b) ∧ (¬ (((nI a) - 1) - (nI b)) < (nI f) → ∃ j1 : Nat, (((nI a) - 1) - (nI b)) = nI j1 ∧ ((j1 < 1000) ∧ ((¬ (tX j1) = 92 → v_RM_isBehindOdd_32 tX f a K2 Q b) ∧ ((tX j1) = 92 → K2 (b + 1)))))
def v_RM_isBehindOdd (tX : Nat → Int32) (f : Nat) (a : Nat) (K2 : Nat → Prop) (Q : Bool → Prop) : Prop := K2 0
theorem t_RM_isBehindOdd (tX : Nat → Int32) (f : Nat) (a : Nat) (hr : r_RM_isBehindOdd tX f a) (K2 : Nat → Prop) (k2 : ∀ b, v_RM_isBehindOdd_2 tX f a K2 (p_RM_isBehindOdd tX f a) b → K2 b) : v_RM_isBehindOdd tX f a K2 (p_RM_isBehindOdd tX f a) := by
  obtain ⟨h1, h2⟩ := hr
  have key : ∀ d b, a - b ≤ d → f + b ≤ a → (∀ j, a - b ≤ j → j < a → tX j = 92) → K2 b := by
    intro d
    have stop : ∀ b, f + b ≤ a → (∀ j, a - b ≤ j → j < a → tX j = 92) → (a - b ≤ f ∨ ¬ tX (a - b - 1) = 92) → v_RM_isBehindOdd_32 tX f a K2 (p_RM_isBehindOdd tX f a) b := by
      intro b hb hin hq
      unfold v_RM_isBehindOdd_32
      have e := sp_run_at (t := tX) (b := f) (k := a) (q := a - b) (by omega) (by omega) hin hq
      rw [show a - (a - b) = b by omega] at e
      refine ⟨by omega, by omega, fun h => ?_, fun h => ?_⟩ <;> simp [p_RM_isBehindOdd, sp_esc, e] <;> omega
    induction d with
    | zero =>
      intro b hd hb hin
      have hba : b = a := by omega
      refine k2 b ?_
      unfold v_RM_isBehindOdd_2
      refine ⟨fun _ => stop b hb hin (Or.inl (by omega)), fun h => ?_⟩
      rw [hba, ig_am1] at h
      exact absurd (Int32.not_le.mp (ig_neg (b := f) (by omega))) h
    | succ d ih =>
      intro b hd hb hin
      refine k2 b ?_
      unfold v_RM_isBehindOdd_2
      by_cases hba : b = a
      · refine ⟨fun _ => stop b hb hin (Or.inl (by omega)), fun h => ?_⟩
        rw [hba, ig_am1] at h
        exact absurd (Int32.not_le.mp (ig_neg (b := f) (by omega))) h
      · have e1 : nI a - 1 - nI b = nI (a - 1 - b) := by
          rw [show (1 : Int32) = nI 1 from rfl, pk_sub (by omega : 1 ≤ a), pk_sub (by omega : b ≤ a - 1)]
        rw [e1]
        refine ⟨fun h => stop b hb hin (Or.inl ?_), fun h => ⟨a - 1 - b, rfl, by omega, fun hn => stop b hb hin (Or.inr ?_), fun hy => ?_⟩⟩
        · rw [ig_lt (by omega) (by omega)] at h
          omega
        · rw [show a - b - 1 = a - 1 - b by omega]; exact hn
        · rw [ig_lt (by omega) (by omega)] at h
          refine ih (b + 1) (by omega) (by omega) (fun j j1 j2 => ?_)
          by_cases hj : j = a - 1 - b
          · rw [hj]; exact hy
          · exact hin j (by omega) j2
  exact key a 0 (by omega) (by omega) (fun j j1 j2 => by omega)

def r_RM_has (tX : Nat → Int32) (f : Nat) (a : Nat) (x : Int32) : Prop := f ≤ a ∧ a ≤ 1000 ∧ x = 47
def p_RM_has (tX : Nat → Int32) (f : Nat) (a : Nat) (x : Int32) (r : Bool) : Prop := r = (decide (sp_eon tX a f < a))
def v_RM_has_3 (tX : Nat → Int32) (f : Nat) (a : Nat) (x : Int32) (K3 : Nat → Prop) (Q : Bool → Prop) (b : Nat) : Prop := (b < 2147483648) ∧ ((a < 2147483648) ∧ ((a ≤ b → Q false) ∧ (¬ a ≤ b → (b < 1000) ∧ ((¬ (tX b) = x → K3 (b + 1)) ∧ ((tX b) = x → Q true)))))
def v_RM_has (tX : Nat → Int32) (f : Nat) (a : Nat) (x : Int32) (K3 : Nat → Prop) (Q : Bool → Prop) : Prop := K3 f
theorem t_RM_has (tX : Nat → Int32) (f : Nat) (a : Nat) (x : Int32) (hr : r_RM_has tX f a x) (K3 : Nat → Prop) (k3 : ∀ b, v_RM_has_3 tX f a x K3 (p_RM_has tX f a x) b → K3 b) : v_RM_has tX f a x K3 (p_RM_has tX f a x) := by
  obtain ⟨h1, h2, h3⟩ := hr
  have key : ∀ d b, a - b ≤ d → b ≤ a → sp_eon tX a b = sp_eon tX a f → K3 b := by
    intro d
    induction d with
    | zero =>
      intro b hd hb he
      refine k3 b ?_
      unfold v_RM_has_3
      refine ⟨by omega, by omega, fun _ => ?_, fun h => by omega⟩
      rw [p_RM_has, ← he, sp_eon_at (Or.inl (by omega)), decide_eq_false (by omega)]
    | succ d ih =>
      intro b hd hb he
      refine k3 b ?_
      unfold v_RM_has_3
      refine ⟨by omega, by omega, fun _ => ?_, fun h => ⟨by omega, fun hn => ?_, fun hy => ?_⟩⟩
      · rw [p_RM_has, ← he, sp_eon_at (Or.inl (by omega)), decide_eq_false (by omega)]
      · exact ih (b + 1) (by omega) (by omega) (by rw [← sp_eon_no (by omega) (by rw [← h3]; exact hn)]; exact he)
      · rw [p_RM_has, ← he, sp_eon_at (Or.inr (by rw [← h3]; exact hy)), decide_eq_true (by omega)]
  exact key a f (by omega) h1 rfl

def r_RM_itemEnd (tX : Nat → Int32) (k : Nat) : Prop := k < 1000
def p_RM_itemEnd (tX : Nat → Int32) (k : Nat) (r : Nat) : Prop := r = (sp_tok tX k)
def v_RM_itemEnd (tX : Nat → Int32) (k : Nat) (Q : Nat → Prop) : Prop := (k < 1000) ∧ ((¬ (tX k) = 92 → Q (k + 1)) ∧ ((tX k) = 92 → Q (k + 2)))
theorem t_RM_itemEnd (tX : Nat → Int32) (k : Nat) (hr : r_RM_itemEnd tX k)  : v_RM_itemEnd tX k (p_RM_itemEnd tX k) := by
  unfold v_RM_itemEnd
  exact ⟨hr, fun h => by rw [p_RM_itemEnd, sp_tok, if_neg h], fun h => by rw [p_RM_itemEnd, sp_tok, if_pos h]⟩

def r_RM_itemByte (tX : Nat → Int32) (k : Nat) : Prop := k < 1000 ∧ sp_tok tX k ≤ 1000
def p_RM_itemByte (tX : Nat → Int32) (k : Nat) (r : Int32) : Prop := r = (sp_byte tX k)
def v_RM_itemByte (tX : Nat → Int32) (k : Nat) (Q : Int32 → Prop) : Prop := (k < 1000) ∧ ((¬ (tX k) = 92 → (k < 1000) ∧ (Q (tX k))) ∧ ((tX k) = 92 → (k + 1 < 1000) ∧ (Q (tX (k + 1)))))
theorem t_RM_itemByte (tX : Nat → Int32) (k : Nat) (hr : r_RM_itemByte tX k)  : v_RM_itemByte tX k (p_RM_itemByte tX k) := by
  obtain ⟨h1, h2⟩ := hr
  unfold v_RM_itemByte
  refine ⟨h1, fun h => ⟨h1, by rw [p_RM_itemByte, sp_byte, if_neg h]⟩, fun h => ⟨?_, by rw [p_RM_itemByte, sp_byte, if_pos h]⟩⟩
  rw [sp_tok, if_pos h] at h2
  omega

def r_RM_itemsFrom (tX : Nat → Int32) (k : Nat) (a : Nat) : Prop := k < a ∧ a ≤ 1000
def p_RM_itemsFrom (tX : Nat → Int32) (k : Nat) (a : Nat) (r : Nat) : Prop := r = (sp_sf tX a k)
def v_RM_itemsFrom (tX : Nat → Int32) (k : Nat) (a : Nat) (Q : Nat → Prop) : Prop := (k + 1 < 2147483648) ∧ ((a < 2147483648) ∧ ((a ≤ k + 1 → Q (k + 1)) ∧ (¬ a ≤ k + 1 → (k + 1 < 1000) ∧ (((tX (k + 1)) = 33 → Q (k + 2)) ∧ (¬ (tX (k + 1)) = 33 → (k + 1 < 1000) ∧ ((¬ (tX (k + 1)) = 94 → Q (k + 1)) ∧ ((tX (k + 1)) = 94 → Q (k + 2))))))))
theorem t_RM_itemsFrom (tX : Nat → Int32) (k : Nat) (a : Nat) (hr : r_RM_itemsFrom tX k a)  : v_RM_itemsFrom tX k a (p_RM_itemsFrom tX k a) := by
  obtain ⟨h1, h2⟩ := hr
  unfold v_RM_itemsFrom
  refine ⟨by omega, by omega, fun h => ?_, fun h => ⟨by omega, fun h3 => ?_, fun h3 => ⟨by omega, fun h4 => ?_, fun h4 => ?_⟩⟩⟩
  · rw [p_RM_itemsFrom, sp_sf, if_neg (by omega)]
  · rw [p_RM_itemsFrom, sp_sf, if_pos ⟨by omega, Or.inl h3⟩]
  · rw [p_RM_itemsFrom, sp_sf, if_neg (by rintro ⟨-, q | q⟩ <;> contradiction)]
  · rw [p_RM_itemsFrom, sp_sf, if_pos ⟨by omega, Or.inr h4⟩]

def r_RM_isRow (tX : Nat → Int32) (k : Nat) (a : Nat) : Prop := k < 2000 ∧ a ≤ 1000
def p_RM_isRow (tX : Nat → Int32) (k : Nat) (a : Nat) (r : Bool) : Prop := r = (sp_row tX a k)
def v_RM_isRow (tX : Nat → Int32) (k : Nat) (a : Nat) (Q : Bool → Prop) : Prop := (k + 1 < 2147483648) ∧ ((a < 2147483648) ∧ ((a ≤ k + 1 → Q false) ∧ (¬ a ≤ k + 1 → (k < 1000) ∧ ((¬ (tX k) = 45 → Q false) ∧ ((tX k) = 45 → (k + 1 < 1000) ∧ (((tX (k + 1)) = 93 → Q false) ∧ (¬ (tX (k + 1)) = 93 → Q true)))))))
theorem t_RM_isRow (tX : Nat → Int32) (k : Nat) (a : Nat) (hr : r_RM_isRow tX k a)  : v_RM_isRow tX k a (p_RM_isRow tX k a) := by
  obtain ⟨h1, h2⟩ := hr
  unfold v_RM_isRow
  refine ⟨by omega, by omega, fun h => ?_, fun h => ⟨by omega, fun h3 => ?_, fun h3 => ⟨by omega, fun h4 => ?_, fun h4 => ?_⟩⟩⟩
  · rw [p_RM_isRow, sp_row, decide_eq_false]
    rintro ⟨q, -⟩
    omega
  · rw [p_RM_isRow, sp_row, decide_eq_false]
    rintro ⟨-, q, -⟩
    exact h3 q
  · rw [p_RM_isRow, sp_row, decide_eq_false]
    rintro ⟨-, -, q⟩
    exact q h4
  · rw [p_RM_isRow, sp_row, decide_eq_true]
    exact ⟨by omega, h3, h4⟩

def r_RM_setEnd (tX : Nat → Int32) (k : Nat) (a : Nat) : Prop := k < a ∧ a ≤ 1000
def p_RM_setEnd (tX : Nat → Int32) (k : Nat) (a : Nat) (r : Nat) : Prop := r = (sp_se tX a (sp_sf tX a k) true)
def v_RM_setEnd_60 (tX : Nat → Int32) (k : Nat) (a : Nat) (K10 : Nat → Bool → Prop) (Q : Nat → Prop) (b : Nat) : Prop := (b < 2147483648) ∧ ((a < 2147483648) ∧ ((a ≤ b → Q (a + 1)) ∧ (¬ a ≤ b → Q (b + 1))))
def v_RM_setEnd_31 (tX : Nat → Int32) (k : Nat) (a : Nat) (K10 : Nat → Bool → Prop) (Q : Nat → Prop) (b : Nat) : Prop := (r_RM_itemEnd tX b) ∧ ((r_RM_isRow tX (sp_tok tX b) a) ∧ ((sp_row tX a (sp_tok tX b) = false → K10 (sp_tok tX b) false) ∧ (sp_row tX a (sp_tok tX b) = true → (r_RM_itemEnd tX ((sp_tok tX b) + 1)) ∧ (K10 (sp_tok tX ((sp_tok tX b) + 1)) false))))
def v_RM_setEnd_10 (tX : Nat → Int32) (k : Nat) (a : Nat) (K10 : Nat → Bool → Prop) (Q : Nat → Prop) (b : Nat) (fi : Bool) : Prop := (b < 2147483648) ∧ ((a < 2147483648) ∧ ((a ≤ b → v_RM_setEnd_60 tX k a K10 Q b) ∧ (¬ a ≤ b → (fi = true → v_RM_setEnd_31 tX k a K10 Q b) ∧ (fi = false → (b < 1000) ∧ (((tX b) = 93 → v_RM_setEnd_60 tX k a K10 Q b) ∧ (¬ (tX b) = 93 → v_RM_setEnd_31 tX k a K10 Q b))))))
def v_RM_setEnd (tX : Nat → Int32) (k : Nat) (a : Nat) (K10 : Nat → Bool → Prop) (Q : Nat → Prop) : Prop := (r_RM_itemsFrom tX k a) ∧ (K10 (sp_sf tX a k) true)
theorem t_RM_setEnd (tX : Nat → Int32) (k : Nat) (a : Nat) (hr : r_RM_setEnd tX k a) (K10 : Nat → Bool → Prop) (k10 : ∀ b fi, v_RM_setEnd_10 tX k a K10 (p_RM_setEnd tX k a) b fi → K10 b fi) : v_RM_setEnd tX k a K10 (p_RM_setEnd tX k a) := by
  obtain ⟨h1, h2⟩ := hr
  have key : ∀ d b fi, a + 1 - b ≤ d → b ≤ a + 3 → sp_se tX a b fi = sp_se tX a (sp_sf tX a k) true → K10 b fi := by
    intro d
    have over : ∀ b fi, a ≤ b → b ≤ a + 3 → sp_se tX a b fi = sp_se tX a (sp_sf tX a k) true → K10 b fi := by
      intro b fi hab hb hI
      refine k10 b fi ?_
      unfold v_RM_setEnd_10 v_RM_setEnd_60
      refine ⟨by omega, by omega, fun _ => ⟨by omega, by omega, fun _ => ?_, fun h => by omega⟩, fun h => by omega⟩
      rw [p_RM_setEnd, ← hI, sp_se, if_neg (by omega)]
    induction d with
    | zero =>
      intro b fi hd hb hI
      exact over b fi (by omega) hb hI
    | succ d ih =>
      intro b fi hd hb hI
      by_cases hab : a ≤ b
      · exact over b fi hab hb hI
      · have go : (fi = true ∨ ¬ tX b = 93) → v_RM_setEnd_31 tX k a K10 (p_RM_setEnd tX k a) b := by
          intro hc
          have e1 : sp_se tX a (sp_nx tX a b) false = sp_se tX a (sp_sf tX a k) true := by
            rw [← hI, sp_se.eq_1 tX a b fi, if_pos (by omega), if_pos hc]
          have t1 := sp_tok_gt tX b
          have t2 : sp_tok tX b ≤ b + 2 := by rw [sp_tok]; split <;> omega
          unfold v_RM_setEnd_31
          refine ⟨by rw [r_RM_itemEnd]; omega, ⟨by omega, h2⟩, fun hr => ?_, fun hr => ⟨?_, ?_⟩⟩
          · have e2 : sp_nx tX a b = sp_tok tX b := by rw [sp_nx, if_neg (by rw [hr]; decide)]
            rw [e2] at e1
            exact ih _ _ (by omega) (by omega) e1
          · have := sp_row_lt hr
            rw [r_RM_itemEnd]; omega
          · have e2 : sp_nx tX a b = sp_tok tX (sp_tok tX b + 1) := by rw [sp_nx, if_pos hr]
            have t3 := sp_tok_gt tX (sp_tok tX b + 1)
            have t4 : sp_tok tX (sp_tok tX b + 1) ≤ sp_tok tX b + 3 := by
              have : ∀ q, sp_tok tX q ≤ q + 2 := by intro q; rw [sp_tok]; split <;> omega
              exact this _
            have := sp_row_lt hr
            rw [e2] at e1
            exact ih _ _ (by omega) (by omega) e1
        refine k10 b fi ?_
        unfold v_RM_setEnd_10 v_RM_setEnd_60
        refine ⟨by omega, by omega, fun h => absurd h hab, fun _ => ⟨fun h => go (Or.inl h), fun h => ⟨by omega, fun h93 => ⟨by omega, by omega, fun h => absurd h hab, fun _ => ?_⟩, fun h93 => go (Or.inr h93)⟩⟩⟩
        rw [p_RM_setEnd, ← hI, sp_se, if_pos (by omega), if_neg]
        rintro (q | q)
        · rw [h] at q; cases q
        · exact q h93
  have := sp_sf_le (t := tX) h1
  unfold v_RM_setEnd
  exact ⟨⟨h1, h2⟩, key (a + 1) _ _ (by omega) (by omega) rfl⟩

def r_RM_isInSet (tX : Nat → Int32) (k : Nat) (a : Nat) (x : Int32) : Prop := k < a ∧ a ≤ 1000 ∧ sp_se tX a (sp_sf tX a k) true ≤ a
def p_RM_isInSet (tX : Nat → Int32) (k : Nat) (a : Nat) (x : Int32) (r : Bool) : Prop := r = (sp_has tX a x (sp_sf tX a k) true != decide (sp_sf tX a k = k + 2))
def v_RM_isInSet_21 (tX : Nat → Int32) (k : Nat) (a : Nat) (x : Int32) (K29 : Nat → Bool → Bool → Bool → Prop) (Q : Bool → Prop) (b : Nat) (s0 : Bool) : Prop := K29 b s0 true false
def v_RM_isInSet_99 (tX : Nat → Int32) (k : Nat) (a : Nat) (x : Int32) (K29 : Nat → Bool → Bool → Bool → Prop) (Q : Bool → Prop) (b : Nat) (tu : Bool) (fi : Bool) (fo : Bool) (lo : Int32) (hi : Int32) : Prop := (fo = true → K29 b tu fi true) ∧ (fo = false → (x < lo → K29 b tu fi false) ∧ (¬ x < lo → (hi < x → K29 b tu fi false) ∧ (¬ hi < x → K29 b tu fi true)))
def v_RM_isInSet_46 (tX : Nat → Int32) (k : Nat) (a : Nat) (x : Int32) (K29 : Nat → Bool → Bool → Bool → Prop) (Q : Bool → Prop) (b : Nat) (tu : Bool) (fo : Bool) : Prop := (r_RM_itemByte tX b) ∧ ((r_RM_itemEnd tX b) ∧ ((r_RM_isRow tX (sp_tok tX b) a) ∧ ((sp_row tX a (sp_tok tX b) = false → v_RM_isInSet_99 tX k a x K29 Q (sp_tok tX b) tu false fo (sp_byte tX b) (sp_byte tX b)) ∧ (sp_row tX a (sp_tok tX b) = true → (r_RM_itemByte tX ((sp_tok tX b) + 1)) ∧ ((r_RM_itemEnd tX ((sp_tok tX b) + 1)) ∧ (v_RM_isInSet_99 tX k a x K29 Q (sp_tok tX ((sp_tok tX b) + 1)) tu false fo (sp_byte tX b) (sp_byte tX ((sp_tok tX b) + 1))))))))
def v_RM_isInSet_29 (tX : Nat → Int32) (k : Nat) (a : Nat) (x : Int32) (K29 : Nat → Bool → Bool → Bool → Prop) (Q : Bool → Prop) (b : Nat) (tu : Bool) (fi : Bool) (fo : Bool) : Prop := (fi = true → v_RM_isInSet_46 tX k a x K29 Q b tu fo) ∧ (fi = false → (b < 1000) ∧ (((tX b) = 93 → (fo = tu → Q false) ∧ (¬ fo = tu → Q true)) ∧ (¬ (tX b) = 93 → v_RM_isInSet_46 tX k a x K29 Q b tu fo)))
def v_RM_isInSet (tX : Nat → Int32) (k : Nat) (a : Nat) (x : Int32) (K29 : Nat → Bool → Bool → Bool → Prop) (Q : Bool → Prop) : Prop := (r_RM_itemsFrom tX k a) ∧ ((sp_sf tX a k < 2147483648) ∧ ((k + 2 < 2147483648) ∧ ((¬ sp_sf tX a k = k + 2 → v_RM_isInSet_21 tX k a x K29 Q (sp_sf tX a k) false) ∧ (sp_sf tX a k = k + 2 → v_RM_isInSet_21 tX k a x K29 Q (sp_sf tX a k) true))))
theorem t_RM_isInSet (tX : Nat → Int32) (k : Nat) (a : Nat) (x : Int32) (hr : r_RM_isInSet tX k a x) (K29 : Nat → Bool → Bool → Bool → Prop) (k29 : ∀ b tu fi fo, v_RM_isInSet_29 tX k a x K29 (p_RM_isInSet tX k a x) b tu fi fo → K29 b tu fi fo) : v_RM_isInSet tX k a x K29 (p_RM_isInSet tX k a x) := by
  obtain ⟨h1, h2, h3⟩ := hr
  have hsf := sp_sf_le (t := tX) h1
  have hgt := sp_se_gt (t := tX) (e := a) (a := sp_sf tX a k) (first := true) hsf
  obtain ⟨z, hz⟩ : ∃ z, sp_se tX a (sp_sf tX a k) true = z + 1 := ⟨sp_se tX a (sp_sf tX a k) true - 1, by omega⟩
  have hza : z + 1 ≤ a := by omega
  have key : ∀ d b fi fo, z - b ≤ d → sp_se tX a b fi = z + 1 → (fo || sp_has tX a x b fi) = sp_has tX a x (sp_sf tX a k) true → K29 b (decide (sp_sf tX a k = k + 2)) fi fo := by
    intro d
    induction d with
    | zero =>
      intro b fi fo hd hs hH
      obtain ⟨g1, g2, -⟩ := sp_set1 hs hza
      have hbz : b = z := by omega
      obtain ⟨hb, hn⟩ := sp_se_in (t := tX) (e := a) (a := b) (first := fi) (by omega)
      have noc : ¬ (fi = true ∨ ¬ tX b = 93) := by
        intro hc
        obtain ⟨n1, n2⟩ := hn hc
        have q1 := sp_nx_gt tX a b
        have q2 := sp_se_gt (t := tX) (e := a) (a := sp_nx tX a b) (first := false) (by omega)
        omega
      rw [g2 hbz x, Bool.or_false] at hH
      have hp : ∀ r, r = (fo != decide (sp_sf tX a k = k + 2)) → p_RM_isInSet tX k a x r := by
        intro r hr
        rw [p_RM_isInSet, ← hH, hr]
      refine k29 b _ fi fo ?_
      unfold v_RM_isInSet_29
      refine ⟨fun h => absurd (Or.inl h) noc, fun h => ⟨by omega, fun h93 => ⟨fun h' => hp _ ?_, fun h' => hp _ ?_⟩, fun h93 => absurd (Or.inr h93) noc⟩⟩
      · rw [← h']; cases fo <;> rfl
      · cases fo <;> cases hq : decide (sp_sf tX a k = k + 2) <;> first | rfl | (rw [hq] at h'; exact absurd rfl h')
    | succ d ih =>
      intro b fi fo hd hs hH
      obtain ⟨g1, g2, g3⟩ := sp_set1 hs hza
      obtain ⟨hb, hn⟩ := sp_se_in (t := tX) (e := a) (a := b) (first := fi) (by omega)
      have body : (fi = true ∨ ¬ tX b = 93) → v_RM_isInSet_46 tX k a x K29 (p_RM_isInSet tX k a x) b (decide (sp_sf tX a k = k + 2)) fo := by
        intro hc
        have hbz : b < z := by
          by_cases hbz : b = z
          · obtain ⟨n1, n2⟩ := hn hc
            have q1 := sp_nx_gt tX a b
            have q2 := sp_se_gt (t := tX) (e := a) (a := sp_nx tX a b) (first := false) (by omega)
            omega
          · omega
        obtain ⟨-, gs, gn⟩ := g3 hbz
        have hg := sp_nx_gt tX a b
        have ht := sp_tok_nx (t := tX) (e := a) (a := b)
        rw [sp_has1 x hs hza hbz] at hH
        have nx : ∀ lo hi, lo = sp_byte tX b → hi = sp_hi tX a b → v_RM_isInSet_99 tX k a x K29 (p_RM_isInSet tX k a x) (sp_nx tX a b) (decide (sp_sf tX a k = k + 2)) false fo lo hi := by
          intro lo hi hlo hhi
          subst hlo hhi
          unfold v_RM_isInSet_99
          refine ⟨fun h => ?_, fun h => ⟨fun h4 => ?_, fun h4 => ⟨fun h5 => ?_, fun h5 => ?_⟩⟩⟩
          · refine ih _ false true (by omega) gs ?_
            rw [← hH, h]
            simp
          · refine ih _ false false (by omega) gs ?_
            rw [← hH, h, decide_eq_false (fun q => absurd q.1 (Int32.not_le.mpr h4)), Bool.false_or, Bool.false_or]
          · refine ih _ false false (by omega) gs ?_
            rw [← hH, h, decide_eq_false (fun q => absurd q.2 (Int32.not_le.mpr h5)), Bool.false_or, Bool.false_or]
          · refine ih _ false true (by omega) gs ?_
            rw [← hH, decide_eq_true ⟨Int32.not_lt.mp h4, Int32.not_lt.mp h5⟩]
            simp
        unfold v_RM_isInSet_46
        refine ⟨⟨by omega, by omega⟩, by rw [r_RM_itemEnd]; omega, ⟨by omega, h2⟩, fun hr => ?_, fun hr => ⟨⟨?_, ?_⟩, ?_, ?_⟩⟩
        · have e1 : sp_nx tX a b = sp_tok tX b := by rw [sp_nx, if_neg (by rw [hr]; decide)]
          have := nx (sp_byte tX b) (sp_byte tX b) rfl (by rw [sp_hi, if_neg (by rw [hr]; decide)])
          rw [e1] at this
          exact this
        · have := sp_row_lt hr
          omega
        · have e1 : sp_nx tX a b = sp_tok tX (sp_tok tX b + 1) := by rw [sp_nx, if_pos hr]
          omega
        · have := sp_row_lt hr
          rw [r_RM_itemEnd]; omega
        · have e1 : sp_nx tX a b = sp_tok tX (sp_tok tX b + 1) := by rw [sp_nx, if_pos hr]
          have := nx (sp_byte tX b) (sp_byte tX (sp_tok tX b + 1)) rfl (by rw [sp_hi, if_pos hr])
          rw [e1] at this
          exact this
      refine k29 b _ fi fo ?_
      unfold v_RM_isInSet_29
      refine ⟨fun h => body (Or.inl h), fun h => ⟨by omega, fun h93 => ?_, fun h93 => body (Or.inr h93)⟩⟩
      have hbz : b = z := by
        rw [sp_se, if_pos hb, if_neg] at hs
        · omega
        · rintro (q | q)
          · rw [h] at q; cases q
          · exact q h93
      rw [g2 hbz x, Bool.or_false] at hH
      have hp : ∀ r, r = (fo != decide (sp_sf tX a k = k + 2)) → p_RM_isInSet tX k a x r := by
        intro r hr
        rw [p_RM_isInSet, ← hH, hr]
      refine ⟨fun h' => hp _ ?_, fun h' => hp _ ?_⟩
      · rw [← h']; cases fo <;> rfl
      · cases fo <;> cases hq : decide (sp_sf tX a k = k + 2) <;> first | rfl | (rw [hq] at h'; exact absurd rfl h')
  have start := key z _ true false (by omega) hz (by rw [Bool.false_or])
  unfold v_RM_isInSet v_RM_isInSet_21
  refine ⟨⟨h1, h2⟩, by omega, by omega, fun h => ?_, fun h => ?_⟩
  · rw [decide_eq_false h] at start
    exact start
  · rw [decide_eq_true h] at start
    exact start

def r_RM_look (nx : Nat) (so : Nat) (tX : Nat → Int32) (k : Nat) (a : Nat) : Prop := k < a ∧ a ≤ 1000
def p_RM_look (nx : Nat) (so : Nat) (tX : Nat → Int32) (k : Nat) (a : Nat) (nx' : Nat) (so' : Nat) : Prop := nx' = (sp_end tX a k) ∧ so' = (sp_sort tX a k)
def v_RM_look_58 (nx : Nat) (so : Nat) (tX : Nat → Int32) (k : Nat) (a : Nat) (Q : Nat → Nat → Prop) (s0 : Nat) (nxc : Nat) (soc : Nat) : Prop := Q (k + 2) s0
def v_RM_look_101 (nx : Nat) (so : Nat) (tX : Nat → Int32) (k : Nat) (a : Nat) (Q : Nat → Nat → Prop) (s0 : Nat) (nxc : Nat) (soc : Nat) : Prop := Q nxc s0
def v_RM_look_36 (nx : Nat) (so : Nat) (tX : Nat → Int32) (k : Nat) (a : Nat) (Q : Nat → Nat → Prop) (x : Int32) (s0 : Nat) (nxc : Nat) (soc : Nat) : Prop := (¬ x = 92 → (¬ x = 91 → Q nxc s0) ∧ (x = 91 → (r_RM_setEnd tX k a) ∧ ((sp_se tX a (sp_sf tX a k) true < 2147483648) ∧ ((a < 2147483648) ∧ ((sp_se tX a (sp_sf tX a k) true ≤ a → v_RM_look_101 nx so tX k a Q 3 (sp_se tX a (sp_sf tX a k) true) s0) ∧ (¬ sp_se tX a (sp_sf tX a k) true ≤ a → v_RM_look_101 nx so tX k a Q 4 (sp_se tX a (sp_sf tX a k) true) s0)))))) ∧ (x = 92 → (k + 1 < 2147483648) ∧ ((a < 2147483648) ∧ ((a ≤ k + 1 → v_RM_look_58 nx so tX k a Q 4 nxc s0) ∧ (¬ a ≤ k + 1 → v_RM_look_58 nx so tX k a Q 0 nxc s0))))
def v_RM_look (nx : Nat) (so : Nat) (tX : Nat → Int32) (k : Nat) (a : Nat) (Q : Nat → Nat → Prop) : Prop := (k < 1000) ∧ ((¬ (tX k) = 63 → (¬ (tX k) = 42 → v_RM_look_36 nx so tX k a Q (tX k) 0 (k + 1) so) ∧ ((tX k) = 42 → v_RM_look_36 nx so tX k a Q (tX k) 2 (k + 1) so)) ∧ ((tX k) = 63 → v_RM_look_36 nx so tX k a Q (tX k) 1 (k + 1) so))
theorem t_RM_look (nx : Nat) (so : Nat) (tX : Nat → Int32) (k : Nat) (a : Nat) (hr : r_RM_look nx so tX k a)  : v_RM_look nx so tX k a (p_RM_look nx so tX k a) := by
  obtain ⟨h1, h2⟩ := hr
  have main : ∀ s0 soc, s0 = (if tX k = 63 then 1 else if tX k = 42 then 2 else 0) → v_RM_look_36 nx so tX k a (p_RM_look nx so tX k a) (tX k) s0 (k + 1) soc := by
    intro s0 soc hs0
    have hse := sp_se_le (t := tX) (e := a) (a := sp_sf tX a k) (first := true)
    unfold v_RM_look_36 v_RM_look_101 v_RM_look_58
    refine ⟨fun h92 => ⟨fun h91 => ⟨?_, ?_⟩, fun h91 => ⟨⟨h1, h2⟩, by omega, by omega, fun h => ⟨?_, ?_⟩, fun h => ⟨?_, ?_⟩⟩⟩, fun h92 => ⟨by omega, by omega, fun h => ⟨?_, ?_⟩, fun h => ⟨?_, ?_⟩⟩⟩
    · rw [sp_end, if_neg h92, if_neg h91]
    · rw [sp_sort, if_neg h92, if_neg h91, hs0]
    · rw [sp_end, if_neg h92, if_pos h91]
    · rw [sp_sort, if_neg h92, if_pos h91, sp_end, if_neg h92, if_pos h91, if_neg (by omega)]
    · rw [sp_end, if_neg h92, if_pos h91]
    · rw [sp_sort, if_neg h92, if_pos h91, sp_end, if_neg h92, if_pos h91, if_pos (by omega)]
    · rw [sp_end, if_pos h92]
    · rw [sp_sort, if_pos h92, if_neg (by omega)]
    · rw [sp_end, if_pos h92]
    · rw [sp_sort, if_pos h92, if_pos (by omega)]
  unfold v_RM_look
  refine ⟨by omega, fun h => ⟨fun h3 => main _ _ ?_, fun h3 => main _ _ ?_⟩, fun h => main _ _ ?_⟩
  · rw [if_neg h, if_neg h3]
  · rw [if_neg h, if_pos h3]
  · rw [if_pos h]

def r_RM_isVoidName (nx : Nat) (so : Nat) (tX : Nat → Int32) (f : Nat) (a : Nat) : Prop := f ≤ a ∧ a ≤ 1000
def p_RM_isVoidName (nx : Nat) (so : Nat) (tX : Nat → Int32) (f : Nat) (a : Nat) (r : Bool) (nx' : Nat) (so' : Nat) : Prop := r = (decide (f = a) || sp_void tX a f)
def v_RM_isVoidName_2 (nx : Nat) (so : Nat) (tX : Nat → Int32) (f : Nat) (a : Nat) (K2 : Nat → Nat → Nat → Prop) (Q : Bool → Nat → Nat → Prop) (b : Nat) (nxc : Nat) (soc : Nat) : Prop := (b < 2147483648) ∧ ((a < 2147483648) ∧ ((a ≤ b → (f < 2147483648) ∧ ((a < 2147483648) ∧ ((¬ f = a → Q false nxc soc) ∧ (f = a → Q true nxc soc)))) ∧ (¬ a ≤ b → (r_RM_look nxc soc tX b a) ∧ ((sp_sort tX a b < 2147483648) ∧ ((¬ sp_sort tX a b = 4 → K2 (sp_end tX a b) (sp_end tX a b) (sp_sort tX a b)) ∧ (sp_sort tX a b = 4 → Q true (sp_end tX a b) (sp_sort tX a b)))))))
def v_RM_isVoidName (nx : Nat) (so : Nat) (tX : Nat → Int32) (f : Nat) (a : Nat) (K2 : Nat → Nat → Nat → Prop) (Q : Bool → Nat → Nat → Prop) : Prop := K2 f nx so
theorem t_RM_isVoidName (nx : Nat) (so : Nat) (tX : Nat → Int32) (f : Nat) (a : Nat) (hr : r_RM_isVoidName nx so tX f a) (K2 : Nat → Nat → Nat → Prop) (k2 : ∀ b nxc soc, v_RM_isVoidName_2 nx so tX f a K2 (p_RM_isVoidName nx so tX f a) b nxc soc → K2 b nxc soc) : v_RM_isVoidName nx so tX f a K2 (p_RM_isVoidName nx so tX f a) := by
  obtain ⟨h1, h2⟩ := hr
  have key : ∀ d b n s, a - b ≤ d → b ≤ a → f ≤ b → sp_void tX a b = sp_void tX a f → K2 b n s := by
    intro d
    have stop : ∀ b n s, b = a → sp_void tX a b = sp_void tX a f → K2 b n s := by
      intro b n s hb hI
      have e1 : sp_void tX a b = false := by rw [sp_void, dif_neg (by omega)]
      refine k2 b n s ?_
      unfold v_RM_isVoidName_2
      refine ⟨by omega, by omega, fun _ => ⟨by omega, by omega, fun h => ?_, fun h => ?_⟩, fun h => by omega⟩
      · rw [p_RM_isVoidName, ← hI, e1, decide_eq_false h]
        rfl
      · rw [p_RM_isVoidName, decide_eq_true h]
        rfl
    induction d with
    | zero => intro b n s hd hb hf hI; exact stop b n s (by omega) hI
    | succ d ih =>
      intro b n s hd hb hf hI
      by_cases hba : b = a
      · exact stop b n s hba hI
      · have hlt : b < a := by omega
        have hg := sp_end_gt (t := tX) hlt
        have h4 := sp_sort4 (t := tX) hlt
        have hle := sp_sort_le tX a b
        refine k2 b n s ?_
        unfold v_RM_isVoidName_2
        refine ⟨by omega, by omega, fun h => by omega, fun _ => ⟨⟨hlt, h2⟩, by omega, fun h => ?_, fun h => ?_⟩⟩
        · have he : sp_end tX a b ≤ a := by
            by_cases he : sp_end tX a b ≤ a
            · exact he
            · exact absurd (h4.mpr he) h
          refine ih _ _ _ (by omega) he (by omega) ?_
          rw [← hI, sp_void.eq_1 tX a b, dif_pos hlt, if_pos he]
        · have e1 : sp_void tX a b = true := by rw [sp_void, dif_pos hlt, if_neg (h4.mp h)]
          rw [p_RM_isVoidName, ← hI, e1]
          simp
  exact key a f nx so (by omega) h1 (Nat.le_refl _) rfl
end
section
theorem kw_0_5 : Cond.initialized "IgnoreRulesModel" ∈ ig_T := ig_T_mem (List.mem_append_left _ (List.mem_of_getElem? (i := 5) rfl)) rfl
theorem kw_1_148 : Cond.fieldLink "IgnoreRulesModel" 13 "IgnoreRulesModel" "text" "[I" ∈ ig_T := ig_T_mem (List.mem_append_right _ (List.mem_append_left _ (List.mem_of_getElem? (i := 148) rfl))) rfl
theorem kw_1_158 : Cond.fieldLink "IgnoreRulesModel" 65 "IgnoreRulesModel" "next" "I" ∈ ig_T := ig_T_mem (List.mem_append_right _ (List.mem_append_left _ (List.mem_of_getElem? (i := 158) rfl))) rfl
theorem kw_1_159 : Cond.fieldLink "IgnoreRulesModel" 68 "IgnoreRulesModel" "sort" "I" ∈ ig_T := ig_T_mem (List.mem_append_right _ (List.mem_append_left _ (List.mem_of_getElem? (i := 159) rfl))) rfl
theorem kw_2_33 : Cond.methodLink "IgnoreRulesModel" 89 y_RM_look ∈ ig_T := ig_T_mem (List.mem_append_right _ (List.mem_append_right _ (List.mem_of_getElem? (i := 33) rfl))) rfl
theorem kw_2_35 : Cond.instanceMethod y_RM_look ∈ ig_T := ig_T_mem (List.mem_append_right _ (List.mem_append_right _ (List.mem_of_getElem? (i := 35) rfl))) rfl
theorem kw_2_37 : Cond.methodLink "IgnoreRulesModel" 71 y_RM_setEnd ∈ ig_T := ig_T_mem (List.mem_append_right _ (List.mem_append_right _ (List.mem_of_getElem? (i := 37) rfl))) rfl
theorem kw_2_39 : Cond.instanceMethod y_RM_setEnd ∈ ig_T := ig_T_mem (List.mem_append_right _ (List.mem_append_right _ (List.mem_of_getElem? (i := 39) rfl))) rfl
theorem kw_2_41 : Cond.methodLink "IgnoreRulesModel" 75 y_RM_itemsFrom ∈ ig_T := ig_T_mem (List.mem_append_right _ (List.mem_append_right _ (List.mem_of_getElem? (i := 41) rfl))) rfl
theorem kw_2_43 : Cond.instanceMethod y_RM_itemsFrom ∈ ig_T := ig_T_mem (List.mem_append_right _ (List.mem_append_right _ (List.mem_of_getElem? (i := 43) rfl))) rfl
theorem kw_2_45 : Cond.methodLink "IgnoreRulesModel" 78 y_RM_itemEnd ∈ ig_T := ig_T_mem (List.mem_append_right _ (List.mem_append_right _ (List.mem_of_getElem? (i := 45) rfl))) rfl
theorem kw_2_47 : Cond.instanceMethod y_RM_itemEnd ∈ ig_T := ig_T_mem (List.mem_append_right _ (List.mem_append_right _ (List.mem_of_getElem? (i := 47) rfl))) rfl
theorem kw_2_49 : Cond.methodLink "IgnoreRulesModel" 82 y_RM_isRow ∈ ig_T := ig_T_mem (List.mem_append_right _ (List.mem_append_right _ (List.mem_of_getElem? (i := 49) rfl))) rfl
theorem kw_2_51 : Cond.instanceMethod y_RM_isRow ∈ ig_T := ig_T_mem (List.mem_append_right _ (List.mem_append_right _ (List.mem_of_getElem? (i := 51) rfl))) rfl
theorem kw_2_101 : Cond.methodLink "IgnoreRulesModel" 86 y_RM_itemByte ∈ ig_T := ig_T_mem (List.mem_append_right _ (List.mem_append_right _ (List.mem_of_getElem? (i := 101) rfl))) rfl
theorem kw_2_103 : Cond.instanceMethod y_RM_itemByte ∈ ig_T := ig_T_mem (List.mem_append_right _ (List.mem_append_right _ (List.mem_of_getElem? (i := 103) rfl))) rfl
theorem d_RM_isBehindOdd_0 : decode b_RM_isBehindOdd 0 = .ok (.iconst 0, 1) := by decide +kernel
theorem d_RM_isBehindOdd_1 : decode b_RM_isBehindOdd 1 = .ok (.istore_n 3, 1) := by decide +kernel
theorem d_RM_isBehindOdd_2 : decode b_RM_isBehindOdd 2 = .ok (.iload_n 2, 1) := by decide +kernel
theorem d_RM_isBehindOdd_3 : decode b_RM_isBehindOdd 3 = .ok (.iconst 1, 1) := by decide +kernel
theorem d_RM_isBehindOdd_4 : decode b_RM_isBehindOdd 4 = .ok (.isub, 1) := by decide +kernel
theorem d_RM_isBehindOdd_5 : decode b_RM_isBehindOdd 5 = .ok (.iload_n 3, 1) := by decide +kernel
theorem d_RM_isBehindOdd_6 : decode b_RM_isBehindOdd 6 = .ok (.isub, 1) := by decide +kernel
theorem d_RM_isBehindOdd_7 : decode b_RM_isBehindOdd 7 = .ok (.iload_n 1, 1) := by decide +kernel
theorem d_RM_isBehindOdd_8 : decode b_RM_isBehindOdd 8 = .ok (.if_icmp .lt 24, 3) := by decide +kernel
theorem d_RM_isBehindOdd_11 : decode b_RM_isBehindOdd 11 = .ok (.aload_n 0, 1) := by decide +kernel
theorem d_RM_isBehindOdd_12 : decode b_RM_isBehindOdd 12 = .ok (.getfield 13, 3) := by decide +kernel
theorem d_RM_isBehindOdd_15 : decode b_RM_isBehindOdd 15 = .ok (.iload_n 2, 1) := by decide +kernel
theorem d_RM_isBehindOdd_16 : decode b_RM_isBehindOdd 16 = .ok (.iconst 1, 1) := by decide +kernel
theorem d_RM_isBehindOdd_17 : decode b_RM_isBehindOdd 17 = .ok (.isub, 1) := by decide +kernel
theorem d_RM_isBehindOdd_18 : decode b_RM_isBehindOdd 18 = .ok (.iload_n 3, 1) := by decide +kernel
theorem d_RM_isBehindOdd_19 : decode b_RM_isBehindOdd 19 = .ok (.isub, 1) := by decide +kernel
theorem d_RM_isBehindOdd_20 : decode b_RM_isBehindOdd 20 = .ok (.iaload, 1) := by decide +kernel
theorem d_RM_isBehindOdd_21 : decode b_RM_isBehindOdd 21 = .ok (.bipush 92, 2) := by decide +kernel
theorem d_RM_isBehindOdd_23 : decode b_RM_isBehindOdd 23 = .ok (.if_icmp .ne 9, 3) := by decide +kernel
theorem d_RM_isBehindOdd_26 : decode b_RM_isBehindOdd 26 = .ok (.iinc 3 1, 3) := by decide +kernel
theorem d_RM_isBehindOdd_29 : decode b_RM_isBehindOdd 29 = .ok (.goto (-27), 3) := by decide +kernel
theorem d_RM_isBehindOdd_32 : decode b_RM_isBehindOdd 32 = .ok (.iload_n 3, 1) := by decide +kernel
theorem d_RM_isBehindOdd_33 : decode b_RM_isBehindOdd 33 = .ok (.iconst 2, 1) := by decide +kernel
theorem d_RM_isBehindOdd_34 : decode b_RM_isBehindOdd 34 = .ok (.irem, 1) := by decide +kernel
theorem d_RM_isBehindOdd_35 : decode b_RM_isBehindOdd 35 = .ok (.iconst 1, 1) := by decide +kernel
theorem d_RM_isBehindOdd_36 : decode b_RM_isBehindOdd 36 = .ok (.if_icmp .ne 7, 3) := by decide +kernel
theorem d_RM_isBehindOdd_39 : decode b_RM_isBehindOdd 39 = .ok (.iconst 1, 1) := by decide +kernel
theorem d_RM_isBehindOdd_40 : decode b_RM_isBehindOdd 40 = .ok (.goto 4, 3) := by decide +kernel
theorem d_RM_isBehindOdd_43 : decode b_RM_isBehindOdd 43 = .ok (.iconst 0, 1) := by decide +kernel
theorem d_RM_isBehindOdd_44 : decode b_RM_isBehindOdd 44 = .ok (.ireturn, 1) := by decide +kernel
abbrev w_RM_isBehindOdd : List Cond := Cond.code y_RM_isBehindOdd b_RM_isBehindOdd 4 (some .boolean) :: ig_T
theorem g_RM_isBehindOdd : GoodIn ig_T w_RM_isBehindOdd := ig_T_good (ig_T_mem (List.mem_append_right _ (List.mem_append_right _ (List.mem_of_getElem? (i := 16) rfl))) rfl)
set_option maxHeartbeats 4000000 in
set_option maxRecDepth 100000 in
theorem c_RM_isBehindOdd (l : Launch) (dC : Nat → ClassId) (dI : Nat → Nat → Nat) (cC cI cZ cL : ClassId) (o0 ra rx rf rt rb rl rp ru_ rv rr rs rg rh rz ry : Nat) (th : Int32) (si : Int32) (ru : Int32) (na : Int32) (nx : Int32) (so : Int32) (pa : Int32) (bz : Int32) (de : Int32) (dp : Int32) (io : Int32) (tX : Nat → Int32) (f : Nat) (a : Nat) (sz : Nat) (hr : r_RM_isBehindOdd tX f a) : Met l y_RM_isBehindOdd w_RM_isBehindOdd ({ frames := 0, cells := 0, slots := 0, locals := 0 }) (ig_Pc (dC, dI) ig_cl0 [(cC, .char), (cI, .int), (cZ, .boolean), (cL, .long)] [.ref o0, .int (nI f), .int (nI a)] [(o0, .inr (ciRM, [.int th, .ref ra, .int si, .ref rx, .ref rf, .ref rt, .ref rb, .ref rl, .int ru, .ref rp, .ref ru_, .ref rv, .int na, .int nx, .int so, .ref rr, .ref rs, .ref rg, .ref rh, .int pa, .ref rz, .ref ry, .int bz, .int de, .int dp, .int io])), (rx, .inl (cI, 1000, .inl tX))] sz) (va_Qi (fun (r : Int32) (u : Unit) => ∃ zr : Bool, r = bI zr ∧ p_RM_isBehindOdd tX f a zr ) (fun u t => va_P (dC, dI) ig_cl0 ((fun (u : Unit) => [(o0, .inr (ciRM, [.int th, .ref ra, .int si, .ref rx, .ref rf, .ref rt, .ref rb, .ref rl, .int ru, .ref rp, .ref ru_, .ref rv, .int na, .int nx, .int so, .ref rr, .ref rs, .ref rg, .ref rh, .int pa, .ref rz, .ref ry, .int bz, .int de, .int dp, .int io])), (rx, .inl (cI, 1000, .inl tX))]) u) t.heap ∧ va_D (va_A [(o0, .inr (ciRM, [.int th, .ref ra, .int si, .ref rx, .ref rf, .ref rt, .ref rb, .ref rl, .int ru, .ref rp, .ref ru_, .ref rv, .int na, .int nx, .int so, .ref rr, .ref rs, .ref rg, .ref rh, .int pa, .ref rz, .ref ry, .int bz, .int de, .int dp, .int io])), (rx, .inl (cI, 1000, .inl tX))] sz) ((fun (u : Unit) => [(o0, .inr (ciRM, [.int th, .ref ra, .int si, .ref rx, .ref rf, .ref rt, .ref rb, .ref rl, .int ru, .ref rp, .ref ru_, .ref rv, .int na, .int nx, .int so, .ref rr, .ref rs, .ref rg, .ref rh, .int pa, .ref rz, .ref ry, .int bz, .int de, .int dp, .int io])), (rx, .inl (cI, 1000, .inl tX))]) u)) (va_A [(o0, .inr (ciRM, [.int th, .ref ra, .int si, .ref rx, .ref rf, .ref rt, .ref rb, .ref rl, .int ru, .ref rp, .ref ru_, .ref rv, .int na, .int nx, .int so, .ref rr, .ref rs, .ref rg, .ref rh, .int pa, .ref rz, .ref ry, .int bz, .int de, .int dp, .int io])), (rx, .inl (cI, 1000, .inl tX))] sz)) 0 0 (va_A [(o0, .inr (ciRM, [.int th, .ref ra, .int si, .ref rx, .ref rf, .ref rt, .ref rb, .ref rl, .int ru, .ref rp, .ref ru_, .ref rv, .int na, .int nx, .int so, .ref rr, .ref rs, .ref rg, .ref rh, .int pa, .ref rz, .ref ry, .int bz, .int de, .int dp, .int io])), (rx, .inl (cI, 1000, .inl tX))] sz) := by
  refine ig_metI (fun (r : Int32) (u : Unit) => ∃ zr : Bool, r = bI zr ∧ p_RM_isBehindOdd tX f a zr ) (fun (u : Unit) => [(o0, .inr (ciRM, [.int th, .ref ra, .int si, .ref rx, .ref rf, .ref rt, .ref rb, .ref rl, .int ru, .ref rp, .ref ru_, .ref rv, .int na, .int nx, .int so, .ref rr, .ref rs, .ref rg, .ref rh, .int pa, .ref rz, .ref ry, .int bz, .int de, .int dp, .int io])), (rx, .inl (cI, 1000, .inl tX))]) (by decide) rfl (Nat.le_of_ble_eq_true rfl) rfl (by rintro r u ⟨b, rfl, -⟩; exact bI_ret b) ?_
  intro zp ze zs zm zargs zbelow zmeth zc zA zQ hx hb hml hown hts hK hN hA hret
  obtain ⟨K2, hK2⟩ : ∃ K : Nat → Prop, K = fun (b : Nat) => ig_W zp l ze ({ frames := 0, cells := 0, slots := 0, locals := 0 }) zs zm zargs zbelow zmeth zc (dC, dI) ig_cl0 zA zs.heap 4 0 0 zQ 2 [(0, .ref o0), (1, .int (nI f)), (2, .int (nI a)), (3, .int (nI b))] [] [(o0, .inr (ciRM, [.int th, .ref ra, .int si, .ref rx, .ref rf, .ref rt, .ref rb, .ref rl, .int ru, .ref rp, .ref ru_, .ref rv, .int na, .int nx, .int so, .ref rr, .ref rs, .ref rg, .ref rh, .int pa, .ref rz, .ref ry, .int bz, .int de, .int dp, .int io])), (rx, .inl (cI, 1000, .inl tX))] := ⟨_, rfl⟩
  have j32 : ∀ (b : Nat), v_RM_isBehindOdd_32 tX f a K2 (p_RM_isBehindOdd tX f a) b → ig_W zp l ze ({ frames := 0, cells := 0, slots := 0, locals := 0 }) zs zm zargs zbelow zmeth zc (dC, dI) ig_cl0 zA zs.heap 4 0 0 zQ 32 [(3, .int (nI b))] [] [(o0, .inr (ciRM, [.int th, .ref ra, .int si, .ref rx, .ref rf, .ref rt, .ref rb, .ref rl, .int ru, .ref rp, .ref ru_, .ref rv, .int na, .int nx, .int so, .ref rr, .ref rs, .ref rg, .ref rh, .int pa, .ref rz, .ref ry, .int bz, .int de, .int dp, .int io])), (rx, .inl (cI, 1000, .inl tX))] := by
    intro b hv
    unfold v_RM_isBehindOdd_32 at hv
    refine ig_iload_n hx hb 0 d_RM_isBehindOdd_32 rfl rfl ?_
    refine ig_iconst (v := 2) hx hb d_RM_isBehindOdd_33 (by decide) ?_
    obtain ⟨hc, hv⟩ := hv
    refine ig_iremN hx hb b 2 rfl rfl hc (by decide) (by decide) d_RM_isBehindOdd_34 ?_
    refine ig_iconst (v := 1) hx hb d_RM_isBehindOdd_35 (by decide) ?_
    obtain ⟨h1, hv⟩ := hv
    refine ig_icmp_neN (tgt := 43) hx hb (b % 2) 1 rfl rfl d_RM_isBehindOdd_36 (by decide) h1 (by decide) (fun h => ?_) (fun h => ?_)
    · have hv := hv.1 h
      refine ig_iconst (v := 0) hx hb d_RM_isBehindOdd_43 (by decide) ?_
      exact hret 44 _ 0 () d_RM_isBehindOdd_44 ⟨false, rfl, hv⟩
    · have hv := hv.2 h
      refine ig_iconst (v := 1) hx hb d_RM_isBehindOdd_39 (by decide) ?_
      refine ig_goto (tgt := 44) hx hb d_RM_isBehindOdd_40 (by decide) ?_
      exact hret 44 _ 1 () d_RM_isBehindOdd_44 ⟨true, rfl, hv⟩
  have k2 : ∀ (b : Nat), v_RM_isBehindOdd_2 tX f a K2 (p_RM_isBehindOdd tX f a) b → K2 b := by
    intro b hv
    unfold v_RM_isBehindOdd_2 at hv
    rw [hK2]
    show ig_W zp l ze ({ frames := 0, cells := 0, slots := 0, locals := 0 }) zs zm zargs zbelow zmeth zc (dC, dI) ig_cl0 zA zs.heap 4 0 0 zQ 2 [(0, .ref o0), (1, .int (nI f)), (2, .int (nI a)), (3, .int (nI b))] [] [(o0, .inr (ciRM, [.int th, .ref ra, .int si, .ref rx, .ref rf, .ref rt, .ref rb, .ref rl, .int ru, .ref rp, .ref ru_, .ref rv, .int na, .int nx, .int so, .ref rr, .ref rs, .ref rg, .ref rh, .int pa, .ref rz, .ref ry, .int bz, .int de, .int dp, .int io])), (rx, .inl (cI, 1000, .inl tX))]
    refine ig_iload_n hx hb 2 d_RM_isBehindOdd_2 rfl rfl ?_
    refine ig_iconst (v := 1) hx hb d_RM_isBehindOdd_3 (by decide) ?_
    refine ig_isub hx hb d_RM_isBehindOdd_4 ?_
    refine ig_iload_n hx hb 3 d_RM_isBehindOdd_5 rfl rfl ?_
    refine ig_isub hx hb d_RM_isBehindOdd_6 ?_
    refine ig_iload_n hx hb 1 d_RM_isBehindOdd_7 rfl rfl ?_
    refine ig_icmp_lt (tgt := 32) hx hb d_RM_isBehindOdd_8 (by decide) (fun h => ?_) (fun h => ?_)
    · have hv := hv.1 h
      refine ig_lv (lv' := [(3, .int (nI b))]) [3] rfl ?_
      exact j32 _ hv
    · have hv := hv.2 h
      refine ig_aload_n hx hb 0 d_RM_isBehindOdd_11 rfl rfl ?_
      refine ig_get hx hb hts in_RM hown hK 0 rfl rfl 3 (by decide) (hts _ kw_1_148) (fun _ h => h) rfl d_RM_isBehindOdd_12 ?_
      refine ig_iload_n hx hb 2 d_RM_isBehindOdd_15 rfl rfl ?_
      refine ig_iconst (v := 1) hx hb d_RM_isBehindOdd_16 (by decide) ?_
      refine ig_isub hx hb d_RM_isBehindOdd_17 ?_
      refine ig_iload_n hx hb 3 d_RM_isBehindOdd_18 rfl rfl ?_
      refine ig_isub hx hb d_RM_isBehindOdd_19 ?_
      obtain ⟨j1, he, hv⟩ := hv
      rw [he]
      obtain ⟨hc, hv⟩ := hv
      refine ig_iald (x := (tX j1)) hx hb hK 1 1 rfl rfl j1 rfl hc (by decide) rfl d_RM_isBehindOdd_20 ?_
      refine ig_bipush (v := 92) hx hb d_RM_isBehindOdd_21 (by decide) ?_
      refine ig_icmp_ne (tgt := 32) hx hb d_RM_isBehindOdd_23 (by decide) (fun h => ?_) (fun h => ?_)
      · have hv := hv.1 h
        refine ig_lv (lv' := [(3, .int (nI b))]) [3] rfl ?_
        exact j32 _ hv
      · have hv := hv.2 h
        refine ig_iinc (v := (nI (b + 1))) (lv' := [(3, .int (nI (b + 1))), (0, .ref o0), (1, .int (nI f)), (2, .int (nI a))]) hx hb 3 d_RM_isBehindOdd_26 rfl (ig_inc b 1 (by decide)) (by decide) rfl ?_
        refine ig_goto (tgt := 2) hx hb d_RM_isBehindOdd_29 (by decide) ?_
        refine ig_lv (lv' := [(0, .ref o0), (1, .int (nI f)), (2, .int (nI a)), (3, .int (nI (b + 1)))]) [1, 2, 3, 0] rfl ?_
        rw [hK2] at hv
        exact hv
  have hv := t_RM_isBehindOdd tX f a hr K2 k2
  unfold v_RM_isBehindOdd at hv
  refine ig_iconst (v := 0) hx hb d_RM_isBehindOdd_0 (by decide) ?_
  refine ig_istore_n (lv' := [(3, .int 0), (0, .ref o0), (1, .int (nI f)), (2, .int (nI a))]) hx hb d_RM_isBehindOdd_1 rfl (by decide) rfl ?_
  refine ig_lv (lv' := [(0, .ref o0), (1, .int (nI f)), (2, .int (nI a)), (3, .int 0)]) [1, 2, 3, 0] rfl ?_
  rw [hK2] at hv
  exact hv
theorem d_RM_has_0 : decode b_RM_has 0 = .ok (.iload_n 1, 1) := by decide +kernel
theorem d_RM_has_1 : decode b_RM_has 1 = .ok (.istore 4, 2) := by decide +kernel
theorem d_RM_has_3 : decode b_RM_has 3 = .ok (.iload 4, 2) := by decide +kernel
theorem d_RM_has_5 : decode b_RM_has 5 = .ok (.iload_n 2, 1) := by decide +kernel
theorem d_RM_has_6 : decode b_RM_has 6 = .ok (.if_icmp .ge 22, 3) := by decide +kernel
theorem d_RM_has_9 : decode b_RM_has 9 = .ok (.aload_n 0, 1) := by decide +kernel
theorem d_RM_has_10 : decode b_RM_has 10 = .ok (.getfield 13, 3) := by decide +kernel
theorem d_RM_has_13 : decode b_RM_has 13 = .ok (.iload 4, 2) := by decide +kernel
theorem d_RM_has_15 : decode b_RM_has 15 = .ok (.iaload, 1) := by decide +kernel
theorem d_RM_has_16 : decode b_RM_has 16 = .ok (.iload_n 3, 1) := by decide +kernel
theorem d_RM_has_17 : decode b_RM_has 17 = .ok (.if_icmp .ne 5, 3) := by decide +kernel
theorem d_RM_has_20 : decode b_RM_has 20 = .ok (.iconst 1, 1) := by decide +kernel
theorem d_RM_has_21 : decode b_RM_has 21 = .ok (.ireturn, 1) := by decide +kernel
theorem d_RM_has_22 : decode b_RM_has 22 = .ok (.iinc 4 1, 3) := by decide +kernel
theorem d_RM_has_25 : decode b_RM_has 25 = .ok (.goto (-22), 3) := by decide +kernel
theorem d_RM_has_28 : decode b_RM_has 28 = .ok (.iconst 0, 1) := by decide +kernel
theorem d_RM_has_29 : decode b_RM_has 29 = .ok (.ireturn, 1) := by decide +kernel
abbrev w_RM_has : List Cond := Cond.code y_RM_has b_RM_has 5 (some .boolean) :: ig_T
theorem g_RM_has : GoodIn ig_T w_RM_has := ig_T_good (ig_T_mem (List.mem_append_right _ (List.mem_append_right _ (List.mem_of_getElem? (i := 20) rfl))) rfl)
set_option maxHeartbeats 4000000 in
set_option maxRecDepth 100000 in
theorem c_RM_has (l : Launch) (dC : Nat → ClassId) (dI : Nat → Nat → Nat) (cC cI cZ cL : ClassId) (o0 ra rx rf rt rb rl rp ru_ rv rr rs rg rh rz ry : Nat) (th : Int32) (si : Int32) (ru : Int32) (na : Int32) (nx : Int32) (so : Int32) (pa : Int32) (bz : Int32) (de : Int32) (dp : Int32) (io : Int32) (tX : Nat → Int32) (f : Nat) (a : Nat) (x : Int32) (sz : Nat) (hr : r_RM_has tX f a x) : Met l y_RM_has w_RM_has ({ frames := 0, cells := 0, slots := 0, locals := 0 }) (ig_Pc (dC, dI) ig_cl0 [(cC, .char), (cI, .int), (cZ, .boolean), (cL, .long)] [.ref o0, .int (nI f), .int (nI a), .int x] [(o0, .inr (ciRM, [.int th, .ref ra, .int si, .ref rx, .ref rf, .ref rt, .ref rb, .ref rl, .int ru, .ref rp, .ref ru_, .ref rv, .int na, .int nx, .int so, .ref rr, .ref rs, .ref rg, .ref rh, .int pa, .ref rz, .ref ry, .int bz, .int de, .int dp, .int io])), (rx, .inl (cI, 1000, .inl tX))] sz) (va_Qi (fun (r : Int32) (u : Unit) => ∃ zr : Bool, r = bI zr ∧ p_RM_has tX f a x zr ) (fun u t => va_P (dC, dI) ig_cl0 ((fun (u : Unit) => [(o0, .inr (ciRM, [.int th, .ref ra, .int si, .ref rx, .ref rf, .ref rt, .ref rb, .ref rl, .int ru, .ref rp, .ref ru_, .ref rv, .int na, .int nx, .int so, .ref rr, .ref rs, .ref rg, .ref rh, .int pa, .ref rz, .ref ry, .int bz, .int de, .int dp, .int io])), (rx, .inl (cI, 1000, .inl tX))]) u) t.heap ∧ va_D (va_A [(o0, .inr (ciRM, [.int th, .ref ra, .int si, .ref rx, .ref rf, .ref rt, .ref rb, .ref rl, .int ru, .ref rp, .ref ru_, .ref rv, .int na, .int nx, .int so, .ref rr, .ref rs, .ref rg, .ref rh, .int pa, .ref rz, .ref ry, .int bz, .int de, .int dp, .int io])), (rx, .inl (cI, 1000, .inl tX))] sz) ((fun (u : Unit) => [(o0, .inr (ciRM, [.int th, .ref ra, .int si, .ref rx, .ref rf, .ref rt, .ref rb, .ref rl, .int ru, .ref rp, .ref ru_, .ref rv, .int na, .int nx, .int so, .ref rr, .ref rs, .ref rg, .ref rh, .int pa, .ref rz, .ref ry, .int bz, .int de, .int dp, .int io])), (rx, .inl (cI, 1000, .inl tX))]) u)) (va_A [(o0, .inr (ciRM, [.int th, .ref ra, .int si, .ref rx, .ref rf, .ref rt, .ref rb, .ref rl, .int ru, .ref rp, .ref ru_, .ref rv, .int na, .int nx, .int so, .ref rr, .ref rs, .ref rg, .ref rh, .int pa, .ref rz, .ref ry, .int bz, .int de, .int dp, .int io])), (rx, .inl (cI, 1000, .inl tX))] sz)) 0 0 (va_A [(o0, .inr (ciRM, [.int th, .ref ra, .int si, .ref rx, .ref rf, .ref rt, .ref rb, .ref rl, .int ru, .ref rp, .ref ru_, .ref rv, .int na, .int nx, .int so, .ref rr, .ref rs, .ref rg, .ref rh, .int pa, .ref rz, .ref ry, .int bz, .int de, .int dp, .int io])), (rx, .inl (cI, 1000, .inl tX))] sz) := by
  refine ig_metI (fun (r : Int32) (u : Unit) => ∃ zr : Bool, r = bI zr ∧ p_RM_has tX f a x zr ) (fun (u : Unit) => [(o0, .inr (ciRM, [.int th, .ref ra, .int si, .ref rx, .ref rf, .ref rt, .ref rb, .ref rl, .int ru, .ref rp, .ref ru_, .ref rv, .int na, .int nx, .int so, .ref rr, .ref rs, .ref rg, .ref rh, .int pa, .ref rz, .ref ry, .int bz, .int de, .int dp, .int io])), (rx, .inl (cI, 1000, .inl tX))]) (by decide) rfl (Nat.le_of_ble_eq_true rfl) rfl (by rintro r u ⟨b, rfl, -⟩; exact bI_ret b) ?_
  intro zp ze zs zm zargs zbelow zmeth zc zA zQ hx hb hml hown hts hK hN hA hret
  obtain ⟨K3, hK3⟩ : ∃ K : Nat → Prop, K = fun (b : Nat) => ig_W zp l ze ({ frames := 0, cells := 0, slots := 0, locals := 0 }) zs zm zargs zbelow zmeth zc (dC, dI) ig_cl0 zA zs.heap 5 0 0 zQ 3 [(0, .ref o0), (2, .int (nI a)), (3, .int x), (4, .int (nI b))] [] [(o0, .inr (ciRM, [.int th, .ref ra, .int si, .ref rx, .ref rf, .ref rt, .ref rb, .ref rl, .int ru, .ref rp, .ref ru_, .ref rv, .int na, .int nx, .int so, .ref rr, .ref rs, .ref rg, .ref rh, .int pa, .ref rz, .ref ry, .int bz, .int de, .int dp, .int io])), (rx, .inl (cI, 1000, .inl tX))] := ⟨_, rfl⟩
  have k3 : ∀ (b : Nat), v_RM_has_3 tX f a x K3 (p_RM_has tX f a x) b → K3 b := by
    intro b hv
    unfold v_RM_has_3 at hv
    rw [hK3]
    show ig_W zp l ze ({ frames := 0, cells := 0, slots := 0, locals := 0 }) zs zm zargs zbelow zmeth zc (dC, dI) ig_cl0 zA zs.heap 5 0 0 zQ 3 [(0, .ref o0), (2, .int (nI a)), (3, .int x), (4, .int (nI b))] [] [(o0, .inr (ciRM, [.int th, .ref ra, .int si, .ref rx, .ref rf, .ref rt, .ref rb, .ref rl, .int ru, .ref rp, .ref ru_, .ref rv, .int na, .int nx, .int so, .ref rr, .ref rs, .ref rg, .ref rh, .int pa, .ref rz, .ref ry, .int bz, .int de, .int dp, .int io])), (rx, .inl (cI, 1000, .inl tX))]
    refine ig_iload hx hb 3 d_RM_has_3 rfl ?_
    refine ig_iload_n hx hb 1 d_RM_has_5 rfl rfl ?_
    obtain ⟨h1, hv⟩ := hv
    obtain ⟨h2, hv⟩ := hv
    refine ig_icmp_geN (tgt := 28) hx hb b a rfl rfl d_RM_has_6 (by decide) h1 h2 (fun h => ?_) (fun h => ?_)
    · have hv := hv.1 h
      refine ig_iconst (v := 0) hx hb d_RM_has_28 (by decide) ?_
      exact hret 29 _ 0 () d_RM_has_29 ⟨false, rfl, hv⟩
    · have hv := hv.2 h
      refine ig_aload_n hx hb 0 d_RM_has_9 rfl rfl ?_
      refine ig_get hx hb hts in_RM hown hK 0 rfl rfl 3 (by decide) (hts _ kw_1_148) (fun _ h => h) rfl d_RM_has_10 ?_
      refine ig_iload hx hb 3 d_RM_has_13 rfl ?_
      obtain ⟨hc, hv⟩ := hv
      refine ig_iald (x := (tX b)) hx hb hK 1 1 rfl rfl b rfl hc (by decide) rfl d_RM_has_15 ?_
      refine ig_iload_n hx hb 2 d_RM_has_16 rfl rfl ?_
      refine ig_icmp_ne (tgt := 22) hx hb d_RM_has_17 (by decide) (fun h => ?_) (fun h => ?_)
      · have hv := hv.1 h
        refine ig_iinc (v := (nI (b + 1))) (lv' := [(4, .int (nI (b + 1))), (0, .ref o0), (2, .int (nI a)), (3, .int x)]) hx hb 3 d_RM_has_22 rfl (ig_inc b 1 (by decide)) (by decide) rfl ?_
        refine ig_goto (tgt := 3) hx hb d_RM_has_25 (by decide) ?_
        refine ig_lv (lv' := [(0, .ref o0), (2, .int (nI a)), (3, .int x), (4, .int (nI (b + 1)))]) [1, 2, 3, 0] rfl ?_
        rw [hK3] at hv
        exact hv
      · have hv := hv.2 h
        refine ig_iconst (v := 1) hx hb d_RM_has_20 (by decide) ?_
        exact hret 21 _ 1 () d_RM_has_21 ⟨true, rfl, hv⟩
  have hv := t_RM_has tX f a x hr K3 k3
  unfold v_RM_has at hv
  refine ig_iload_n hx hb 1 d_RM_has_0 rfl rfl ?_
  refine ig_istore (lv' := [(4, .int (nI f)), (0, .ref o0), (1, .int (nI f)), (2, .int (nI a)), (3, .int x)]) hx hb d_RM_has_1 (by decide) rfl ?_
  refine ig_lv (lv' := [(0, .ref o0), (2, .int (nI a)), (3, .int x), (4, .int (nI f))]) [1, 3, 4, 0] rfl ?_
  rw [hK3] at hv
  exact hv
theorem d_RM_itemEnd_0 : decode b_RM_itemEnd 0 = .ok (.aload_n 0, 1) := by decide +kernel
theorem d_RM_itemEnd_1 : decode b_RM_itemEnd 1 = .ok (.getfield 13, 3) := by decide +kernel
theorem d_RM_itemEnd_4 : decode b_RM_itemEnd 4 = .ok (.iload_n 1, 1) := by decide +kernel
theorem d_RM_itemEnd_5 : decode b_RM_itemEnd 5 = .ok (.iaload, 1) := by decide +kernel
theorem d_RM_itemEnd_6 : decode b_RM_itemEnd 6 = .ok (.bipush 92, 2) := by decide +kernel
theorem d_RM_itemEnd_8 : decode b_RM_itemEnd 8 = .ok (.if_icmp .ne 9, 3) := by decide +kernel
theorem d_RM_itemEnd_11 : decode b_RM_itemEnd 11 = .ok (.iload_n 1, 1) := by decide +kernel
theorem d_RM_itemEnd_12 : decode b_RM_itemEnd 12 = .ok (.iconst 2, 1) := by decide +kernel
theorem d_RM_itemEnd_13 : decode b_RM_itemEnd 13 = .ok (.iadd, 1) := by decide +kernel
theorem d_RM_itemEnd_14 : decode b_RM_itemEnd 14 = .ok (.goto 6, 3) := by decide +kernel
theorem d_RM_itemEnd_17 : decode b_RM_itemEnd 17 = .ok (.iload_n 1, 1) := by decide +kernel
theorem d_RM_itemEnd_18 : decode b_RM_itemEnd 18 = .ok (.iconst 1, 1) := by decide +kernel
theorem d_RM_itemEnd_19 : decode b_RM_itemEnd 19 = .ok (.iadd, 1) := by decide +kernel
theorem d_RM_itemEnd_20 : decode b_RM_itemEnd 20 = .ok (.ireturn, 1) := by decide +kernel
abbrev w_RM_itemEnd : List Cond := Cond.code y_RM_itemEnd b_RM_itemEnd 2 (some .int) :: ig_T
theorem g_RM_itemEnd : GoodIn ig_T w_RM_itemEnd := ig_T_good (ig_T_mem (List.mem_append_right _ (List.mem_append_right _ (List.mem_of_getElem? (i := 48) rfl))) rfl)
set_option maxHeartbeats 4000000 in
set_option maxRecDepth 100000 in
theorem c_RM_itemEnd (l : Launch) (dC : Nat → ClassId) (dI : Nat → Nat → Nat) (cC cI cZ cL : ClassId) (o0 ra rx rf rt rb rl rp ru_ rv rr rs rg rh rz ry : Nat) (th : Int32) (si : Int32) (ru : Int32) (na : Int32) (nx : Int32) (so : Int32) (pa : Int32) (bz : Int32) (de : Int32) (dp : Int32) (io : Int32) (tX : Nat → Int32) (k : Nat) (sz : Nat) (hr : r_RM_itemEnd tX k) : Met l y_RM_itemEnd w_RM_itemEnd ({ frames := 0, cells := 0, slots := 0, locals := 0 }) (ig_Pc (dC, dI) ig_cl0 [(cC, .char), (cI, .int), (cZ, .boolean), (cL, .long)] [.ref o0, .int (nI k)] [(o0, .inr (ciRM, [.int th, .ref ra, .int si, .ref rx, .ref rf, .ref rt, .ref rb, .ref rl, .int ru, .ref rp, .ref ru_, .ref rv, .int na, .int nx, .int so, .ref rr, .ref rs, .ref rg, .ref rh, .int pa, .ref rz, .ref ry, .int bz, .int de, .int dp, .int io])), (rx, .inl (cI, 1000, .inl tX))] sz) (va_Qi (fun (r : Int32) (u : Unit) => ∃ zr : Nat, r = nI zr ∧ p_RM_itemEnd tX k zr ) (fun u t => va_P (dC, dI) ig_cl0 ((fun (u : Unit) => [(o0, .inr (ciRM, [.int th, .ref ra, .int si, .ref rx, .ref rf, .ref rt, .ref rb, .ref rl, .int ru, .ref rp, .ref ru_, .ref rv, .int na, .int nx, .int so, .ref rr, .ref rs, .ref rg, .ref rh, .int pa, .ref rz, .ref ry, .int bz, .int de, .int dp, .int io])), (rx, .inl (cI, 1000, .inl tX))]) u) t.heap ∧ va_D (va_A [(o0, .inr (ciRM, [.int th, .ref ra, .int si, .ref rx, .ref rf, .ref rt, .ref rb, .ref rl, .int ru, .ref rp, .ref ru_, .ref rv, .int na, .int nx, .int so, .ref rr, .ref rs, .ref rg, .ref rh, .int pa, .ref rz, .ref ry, .int bz, .int de, .int dp, .int io])), (rx, .inl (cI, 1000, .inl tX))] sz) ((fun (u : Unit) => [(o0, .inr (ciRM, [.int th, .ref ra, .int si, .ref rx, .ref rf, .ref rt, .ref rb, .ref rl, .int ru, .ref rp, .ref ru_, .ref rv, .int na, .int nx, .int so, .ref rr, .ref rs, .ref rg, .ref rh, .int pa, .ref rz, .ref ry, .int bz, .int de, .int dp, .int io])), (rx, .inl (cI, 1000, .inl tX))]) u)) (va_A [(o0, .inr (ciRM, [.int th, .ref ra, .int si, .ref rx, .ref rf, .ref rt, .ref rb, .ref rl, .int ru, .ref rp, .ref ru_, .ref rv, .int na, .int nx, .int so, .ref rr, .ref rs, .ref rg, .ref rh, .int pa, .ref rz, .ref ry, .int bz, .int de, .int dp, .int io])), (rx, .inl (cI, 1000, .inl tX))] sz)) 0 0 (va_A [(o0, .inr (ciRM, [.int th, .ref ra, .int si, .ref rx, .ref rf, .ref rt, .ref rb, .ref rl, .int ru, .ref rp, .ref ru_, .ref rv, .int na, .int nx, .int so, .ref rr, .ref rs, .ref rg, .ref rh, .int pa, .ref rz, .ref ry, .int bz, .int de, .int dp, .int io])), (rx, .inl (cI, 1000, .inl tX))] sz) := by
  refine ig_metI (fun (r : Int32) (u : Unit) => ∃ zr : Nat, r = nI zr ∧ p_RM_itemEnd tX k zr ) (fun (u : Unit) => [(o0, .inr (ciRM, [.int th, .ref ra, .int si, .ref rx, .ref rf, .ref rt, .ref rb, .ref rl, .int ru, .ref rp, .ref ru_, .ref rv, .int na, .int nx, .int so, .ref rr, .ref rs, .ref rg, .ref rh, .int pa, .ref rz, .ref ry, .int bz, .int de, .int dp, .int io])), (rx, .inl (cI, 1000, .inl tX))]) (by decide) rfl (Nat.le_of_ble_eq_true rfl) rfl (fun _ _ _ => rfl) ?_
  intro zp ze zs zm zargs zbelow zmeth zc zA zQ hx hb hml hown hts hK hN hA hret
  have hv := t_RM_itemEnd tX k hr 
  unfold v_RM_itemEnd at hv
  refine ig_aload_n hx hb 0 d_RM_itemEnd_0 rfl rfl ?_
  refine ig_get hx hb hts in_RM hown hK 0 rfl rfl 3 (by decide) (hts _ kw_1_148) (fun _ h => h) rfl d_RM_itemEnd_1 ?_
  refine ig_iload_n hx hb 1 d_RM_itemEnd_4 rfl rfl ?_
  obtain ⟨hc, hv⟩ := hv
  refine ig_iald (x := (tX k)) hx hb hK 1 1 rfl rfl k rfl hc (by decide) rfl d_RM_itemEnd_5 ?_
  refine ig_bipush (v := 92) hx hb d_RM_itemEnd_6 (by decide) ?_
  refine ig_icmp_ne (tgt := 17) hx hb d_RM_itemEnd_8 (by decide) (fun h => ?_) (fun h => ?_)
  · have hv := hv.1 h
    refine ig_iload_n hx hb 1 d_RM_itemEnd_17 rfl rfl ?_
    refine ig_iconst (v := 1) hx hb d_RM_itemEnd_18 (by decide) ?_
    refine ig_iaddN hx hb k 1 rfl rfl d_RM_itemEnd_19 ?_
    exact hret 20 _ (nI (k + 1)) () d_RM_itemEnd_20 ⟨k + 1, rfl, hv⟩
  · have hv := hv.2 h
    refine ig_iload_n hx hb 1 d_RM_itemEnd_11 rfl rfl ?_
    refine ig_iconst (v := 2) hx hb d_RM_itemEnd_12 (by decide) ?_
    refine ig_iaddN hx hb k 2 rfl rfl d_RM_itemEnd_13 ?_
    refine ig_goto (tgt := 20) hx hb d_RM_itemEnd_14 (by decide) ?_
    exact hret 20 _ (nI (k + 2)) () d_RM_itemEnd_20 ⟨k + 2, rfl, hv⟩
theorem d_RM_itemByte_0 : decode b_RM_itemByte 0 = .ok (.aload_n 0, 1) := by decide +kernel
theorem d_RM_itemByte_1 : decode b_RM_itemByte 1 = .ok (.getfield 13, 3) := by decide +kernel
theorem d_RM_itemByte_4 : decode b_RM_itemByte 4 = .ok (.iload_n 1, 1) := by decide +kernel
theorem d_RM_itemByte_5 : decode b_RM_itemByte 5 = .ok (.iaload, 1) := by decide +kernel
theorem d_RM_itemByte_6 : decode b_RM_itemByte 6 = .ok (.bipush 92, 2) := by decide +kernel
theorem d_RM_itemByte_8 : decode b_RM_itemByte 8 = .ok (.if_icmp .ne 14, 3) := by decide +kernel
theorem d_RM_itemByte_11 : decode b_RM_itemByte 11 = .ok (.aload_n 0, 1) := by decide +kernel
theorem d_RM_itemByte_12 : decode b_RM_itemByte 12 = .ok (.getfield 13, 3) := by decide +kernel
theorem d_RM_itemByte_15 : decode b_RM_itemByte 15 = .ok (.iload_n 1, 1) := by decide +kernel
theorem d_RM_itemByte_16 : decode b_RM_itemByte 16 = .ok (.iconst 1, 1) := by decide +kernel
theorem d_RM_itemByte_17 : decode b_RM_itemByte 17 = .ok (.iadd, 1) := by decide +kernel
theorem d_RM_itemByte_18 : decode b_RM_itemByte 18 = .ok (.iaload, 1) := by decide +kernel
theorem d_RM_itemByte_19 : decode b_RM_itemByte 19 = .ok (.goto 9, 3) := by decide +kernel
theorem d_RM_itemByte_22 : decode b_RM_itemByte 22 = .ok (.aload_n 0, 1) := by decide +kernel
theorem d_RM_itemByte_23 : decode b_RM_itemByte 23 = .ok (.getfield 13, 3) := by decide +kernel
theorem d_RM_itemByte_26 : decode b_RM_itemByte 26 = .ok (.iload_n 1, 1) := by decide +kernel
theorem d_RM_itemByte_27 : decode b_RM_itemByte 27 = .ok (.iaload, 1) := by decide +kernel
theorem d_RM_itemByte_28 : decode b_RM_itemByte 28 = .ok (.ireturn, 1) := by decide +kernel
abbrev w_RM_itemByte : List Cond := Cond.code y_RM_itemByte b_RM_itemByte 2 (some .int) :: ig_T
theorem g_RM_itemByte : GoodIn ig_T w_RM_itemByte := ig_T_good (ig_T_mem (List.mem_append_right _ (List.mem_append_right _ (List.mem_of_getElem? (i := 104) rfl))) rfl)
set_option maxHeartbeats 4000000 in
set_option maxRecDepth 100000 in
theorem c_RM_itemByte (l : Launch) (dC : Nat → ClassId) (dI : Nat → Nat → Nat) (cC cI cZ cL : ClassId) (o0 ra rx rf rt rb rl rp ru_ rv rr rs rg rh rz ry : Nat) (th : Int32) (si : Int32) (ru : Int32) (na : Int32) (nx : Int32) (so : Int32) (pa : Int32) (bz : Int32) (de : Int32) (dp : Int32) (io : Int32) (tX : Nat → Int32) (k : Nat) (sz : Nat) (hr : r_RM_itemByte tX k) : Met l y_RM_itemByte w_RM_itemByte ({ frames := 0, cells := 0, slots := 0, locals := 0 }) (ig_Pc (dC, dI) ig_cl0 [(cC, .char), (cI, .int), (cZ, .boolean), (cL, .long)] [.ref o0, .int (nI k)] [(o0, .inr (ciRM, [.int th, .ref ra, .int si, .ref rx, .ref rf, .ref rt, .ref rb, .ref rl, .int ru, .ref rp, .ref ru_, .ref rv, .int na, .int nx, .int so, .ref rr, .ref rs, .ref rg, .ref rh, .int pa, .ref rz, .ref ry, .int bz, .int de, .int dp, .int io])), (rx, .inl (cI, 1000, .inl tX))] sz) (va_Qi (fun (r : Int32) (u : Unit) => p_RM_itemByte tX k r ) (fun u t => va_P (dC, dI) ig_cl0 ((fun (u : Unit) => [(o0, .inr (ciRM, [.int th, .ref ra, .int si, .ref rx, .ref rf, .ref rt, .ref rb, .ref rl, .int ru, .ref rp, .ref ru_, .ref rv, .int na, .int nx, .int so, .ref rr, .ref rs, .ref rg, .ref rh, .int pa, .ref rz, .ref ry, .int bz, .int de, .int dp, .int io])), (rx, .inl (cI, 1000, .inl tX))]) u) t.heap ∧ va_D (va_A [(o0, .inr (ciRM, [.int th, .ref ra, .int si, .ref rx, .ref rf, .ref rt, .ref rb, .ref rl, .int ru, .ref rp, .ref ru_, .ref rv, .int na, .int nx, .int so, .ref rr, .ref rs, .ref rg, .ref rh, .int pa, .ref rz, .ref ry, .int bz, .int de, .int dp, .int io])), (rx, .inl (cI, 1000, .inl tX))] sz) ((fun (u : Unit) => [(o0, .inr (ciRM, [.int th, .ref ra, .int si, .ref rx, .ref rf, .ref rt, .ref rb, .ref rl, .int ru, .ref rp, .ref ru_, .ref rv, .int na, .int nx, .int so, .ref rr, .ref rs, .ref rg, .ref rh, .int pa, .ref rz, .ref ry, .int bz, .int de, .int dp, .int io])), (rx, .inl (cI, 1000, .inl tX))]) u)) (va_A [(o0, .inr (ciRM, [.int th, .ref ra, .int si, .ref rx, .ref rf, .ref rt, .ref rb, .ref rl, .int ru, .ref rp, .ref ru_, .ref rv, .int na, .int nx, .int so, .ref rr, .ref rs, .ref rg, .ref rh, .int pa, .ref rz, .ref ry, .int bz, .int de, .int dp, .int io])), (rx, .inl (cI, 1000, .inl tX))] sz)) 0 0 (va_A [(o0, .inr (ciRM, [.int th, .ref ra, .int si, .ref rx, .ref rf, .ref rt, .ref rb, .ref rl, .int ru, .ref rp, .ref ru_, .ref rv, .int na, .int nx, .int so, .ref rr, .ref rs, .ref rg, .ref rh, .int pa, .ref rz, .ref ry, .int bz, .int de, .int dp, .int io])), (rx, .inl (cI, 1000, .inl tX))] sz) := by
  refine ig_metI (fun (r : Int32) (u : Unit) => p_RM_itemByte tX k r ) (fun (u : Unit) => [(o0, .inr (ciRM, [.int th, .ref ra, .int si, .ref rx, .ref rf, .ref rt, .ref rb, .ref rl, .int ru, .ref rp, .ref ru_, .ref rv, .int na, .int nx, .int so, .ref rr, .ref rs, .ref rg, .ref rh, .int pa, .ref rz, .ref ry, .int bz, .int de, .int dp, .int io])), (rx, .inl (cI, 1000, .inl tX))]) (by decide) rfl (Nat.le_of_ble_eq_true rfl) rfl (fun _ _ _ => rfl) ?_
  intro zp ze zs zm zargs zbelow zmeth zc zA zQ hx hb hml hown hts hK hN hA hret
  have hv := t_RM_itemByte tX k hr 
  unfold v_RM_itemByte at hv
  refine ig_aload_n hx hb 0 d_RM_itemByte_0 rfl rfl ?_
  refine ig_get hx hb hts in_RM hown hK 0 rfl rfl 3 (by decide) (hts _ kw_1_148) (fun _ h => h) rfl d_RM_itemByte_1 ?_
  refine ig_iload_n hx hb 1 d_RM_itemByte_4 rfl rfl ?_
  obtain ⟨hc, hv⟩ := hv
  refine ig_iald (x := (tX k)) hx hb hK 1 1 rfl rfl k rfl hc (by decide) rfl d_RM_itemByte_5 ?_
  refine ig_bipush (v := 92) hx hb d_RM_itemByte_6 (by decide) ?_
  refine ig_icmp_ne (tgt := 22) hx hb d_RM_itemByte_8 (by decide) (fun h => ?_) (fun h => ?_)
  · have hv := hv.1 h
    refine ig_aload_n hx hb 0 d_RM_itemByte_22 rfl rfl ?_
    refine ig_get hx hb hts in_RM hown hK 0 rfl rfl 3 (by decide) (hts _ kw_1_148) (fun _ h => h) rfl d_RM_itemByte_23 ?_
    refine ig_iload_n hx hb 1 d_RM_itemByte_26 rfl rfl ?_
    obtain ⟨hc, hv⟩ := hv
    refine ig_iald (x := (tX k)) hx hb hK 1 1 rfl rfl k rfl hc (by decide) rfl d_RM_itemByte_27 ?_
    exact hret 28 _ (tX k) () d_RM_itemByte_28 hv
  · have hv := hv.2 h
    refine ig_aload_n hx hb 0 d_RM_itemByte_11 rfl rfl ?_
    refine ig_get hx hb hts in_RM hown hK 0 rfl rfl 3 (by decide) (hts _ kw_1_148) (fun _ h => h) rfl d_RM_itemByte_12 ?_
    refine ig_iload_n hx hb 1 d_RM_itemByte_15 rfl rfl ?_
    refine ig_iconst (v := 1) hx hb d_RM_itemByte_16 (by decide) ?_
    refine ig_iaddN hx hb k 1 rfl rfl d_RM_itemByte_17 ?_
    obtain ⟨hc, hv⟩ := hv
    refine ig_iald (x := (tX (k + 1))) hx hb hK 1 1 rfl rfl (k + 1) rfl hc (by decide) rfl d_RM_itemByte_18 ?_
    refine ig_goto (tgt := 28) hx hb d_RM_itemByte_19 (by decide) ?_
    exact hret 28 _ (tX (k + 1)) () d_RM_itemByte_28 hv
theorem d_RM_itemsFrom_0 : decode b_RM_itemsFrom 0 = .ok (.iload_n 1, 1) := by decide +kernel
theorem d_RM_itemsFrom_1 : decode b_RM_itemsFrom 1 = .ok (.iconst 1, 1) := by decide +kernel
theorem d_RM_itemsFrom_2 : decode b_RM_itemsFrom 2 = .ok (.iadd, 1) := by decide +kernel
theorem d_RM_itemsFrom_3 : decode b_RM_itemsFrom 3 = .ok (.iload_n 2, 1) := by decide +kernel
theorem d_RM_itemsFrom_4 : decode b_RM_itemsFrom 4 = .ok (.if_icmp .ge 35, 3) := by decide +kernel
theorem d_RM_itemsFrom_7 : decode b_RM_itemsFrom 7 = .ok (.aload_n 0, 1) := by decide +kernel
theorem d_RM_itemsFrom_8 : decode b_RM_itemsFrom 8 = .ok (.getfield 13, 3) := by decide +kernel
theorem d_RM_itemsFrom_11 : decode b_RM_itemsFrom 11 = .ok (.iload_n 1, 1) := by decide +kernel
theorem d_RM_itemsFrom_12 : decode b_RM_itemsFrom 12 = .ok (.iconst 1, 1) := by decide +kernel
theorem d_RM_itemsFrom_13 : decode b_RM_itemsFrom 13 = .ok (.iadd, 1) := by decide +kernel
theorem d_RM_itemsFrom_14 : decode b_RM_itemsFrom 14 = .ok (.iaload, 1) := by decide +kernel
theorem d_RM_itemsFrom_15 : decode b_RM_itemsFrom 15 = .ok (.bipush 33, 2) := by decide +kernel
theorem d_RM_itemsFrom_17 : decode b_RM_itemsFrom 17 = .ok (.if_icmp .eq 16, 3) := by decide +kernel
theorem d_RM_itemsFrom_20 : decode b_RM_itemsFrom 20 = .ok (.aload_n 0, 1) := by decide +kernel
theorem d_RM_itemsFrom_21 : decode b_RM_itemsFrom 21 = .ok (.getfield 13, 3) := by decide +kernel
theorem d_RM_itemsFrom_24 : decode b_RM_itemsFrom 24 = .ok (.iload_n 1, 1) := by decide +kernel
theorem d_RM_itemsFrom_25 : decode b_RM_itemsFrom 25 = .ok (.iconst 1, 1) := by decide +kernel
theorem d_RM_itemsFrom_26 : decode b_RM_itemsFrom 26 = .ok (.iadd, 1) := by decide +kernel
theorem d_RM_itemsFrom_27 : decode b_RM_itemsFrom 27 = .ok (.iaload, 1) := by decide +kernel
theorem d_RM_itemsFrom_28 : decode b_RM_itemsFrom 28 = .ok (.bipush 94, 2) := by decide +kernel
theorem d_RM_itemsFrom_30 : decode b_RM_itemsFrom 30 = .ok (.if_icmp .ne 9, 3) := by decide +kernel
theorem d_RM_itemsFrom_33 : decode b_RM_itemsFrom 33 = .ok (.iload_n 1, 1) := by decide +kernel
theorem d_RM_itemsFrom_34 : decode b_RM_itemsFrom 34 = .ok (.iconst 2, 1) := by decide +kernel
theorem d_RM_itemsFrom_35 : decode b_RM_itemsFrom 35 = .ok (.iadd, 1) := by decide +kernel
theorem d_RM_itemsFrom_36 : decode b_RM_itemsFrom 36 = .ok (.goto 6, 3) := by decide +kernel
theorem d_RM_itemsFrom_39 : decode b_RM_itemsFrom 39 = .ok (.iload_n 1, 1) := by decide +kernel
theorem d_RM_itemsFrom_40 : decode b_RM_itemsFrom 40 = .ok (.iconst 1, 1) := by decide +kernel
theorem d_RM_itemsFrom_41 : decode b_RM_itemsFrom 41 = .ok (.iadd, 1) := by decide +kernel
theorem d_RM_itemsFrom_42 : decode b_RM_itemsFrom 42 = .ok (.ireturn, 1) := by decide +kernel
abbrev w_RM_itemsFrom : List Cond := Cond.code y_RM_itemsFrom b_RM_itemsFrom 3 (some .int) :: ig_T
theorem g_RM_itemsFrom : GoodIn ig_T w_RM_itemsFrom := ig_T_good (ig_T_mem (List.mem_append_right _ (List.mem_append_right _ (List.mem_of_getElem? (i := 44) rfl))) rfl)
set_option maxHeartbeats 4000000 in
set_option maxRecDepth 100000 in
theorem c_RM_itemsFrom (l : Launch) (dC : Nat → ClassId) (dI : Nat → Nat → Nat) (cC cI cZ cL : ClassId) (o0 ra rx rf rt rb rl rp ru_ rv rr rs rg rh rz ry : Nat) (th : Int32) (si : Int32) (ru : Int32) (na : Int32) (nx : Int32) (so : Int32) (pa : Int32) (bz : Int32) (de : Int32) (dp : Int32) (io : Int32) (tX : Nat → Int32) (k : Nat) (a : Nat) (sz : Nat) (hr : r_RM_itemsFrom tX k a) : Met l y_RM_itemsFrom w_RM_itemsFrom ({ frames := 0, cells := 0, slots := 0, locals := 0 }) (ig_Pc (dC, dI) ig_cl0 [(cC, .char), (cI, .int), (cZ, .boolean), (cL, .long)] [.ref o0, .int (nI k), .int (nI a)] [(o0, .inr (ciRM, [.int th, .ref ra, .int si, .ref rx, .ref rf, .ref rt, .ref rb, .ref rl, .int ru, .ref rp, .ref ru_, .ref rv, .int na, .int nx, .int so, .ref rr, .ref rs, .ref rg, .ref rh, .int pa, .ref rz, .ref ry, .int bz, .int de, .int dp, .int io])), (rx, .inl (cI, 1000, .inl tX))] sz) (va_Qi (fun (r : Int32) (u : Unit) => ∃ zr : Nat, r = nI zr ∧ p_RM_itemsFrom tX k a zr ) (fun u t => va_P (dC, dI) ig_cl0 ((fun (u : Unit) => [(o0, .inr (ciRM, [.int th, .ref ra, .int si, .ref rx, .ref rf, .ref rt, .ref rb, .ref rl, .int ru, .ref rp, .ref ru_, .ref rv, .int na, .int nx, .int so, .ref rr, .ref rs, .ref rg, .ref rh, .int pa, .ref rz, .ref ry, .int bz, .int de, .int dp, .int io])), (rx, .inl (cI, 1000, .inl tX))]) u) t.heap ∧ va_D (va_A [(o0, .inr (ciRM, [.int th, .ref ra, .int si, .ref rx, .ref rf, .ref rt, .ref rb, .ref rl, .int ru, .ref rp, .ref ru_, .ref rv, .int na, .int nx, .int so, .ref rr, .ref rs, .ref rg, .ref rh, .int pa, .ref rz, .ref ry, .int bz, .int de, .int dp, .int io])), (rx, .inl (cI, 1000, .inl tX))] sz) ((fun (u : Unit) => [(o0, .inr (ciRM, [.int th, .ref ra, .int si, .ref rx, .ref rf, .ref rt, .ref rb, .ref rl, .int ru, .ref rp, .ref ru_, .ref rv, .int na, .int nx, .int so, .ref rr, .ref rs, .ref rg, .ref rh, .int pa, .ref rz, .ref ry, .int bz, .int de, .int dp, .int io])), (rx, .inl (cI, 1000, .inl tX))]) u)) (va_A [(o0, .inr (ciRM, [.int th, .ref ra, .int si, .ref rx, .ref rf, .ref rt, .ref rb, .ref rl, .int ru, .ref rp, .ref ru_, .ref rv, .int na, .int nx, .int so, .ref rr, .ref rs, .ref rg, .ref rh, .int pa, .ref rz, .ref ry, .int bz, .int de, .int dp, .int io])), (rx, .inl (cI, 1000, .inl tX))] sz)) 0 0 (va_A [(o0, .inr (ciRM, [.int th, .ref ra, .int si, .ref rx, .ref rf, .ref rt, .ref rb, .ref rl, .int ru, .ref rp, .ref ru_, .ref rv, .int na, .int nx, .int so, .ref rr, .ref rs, .ref rg, .ref rh, .int pa, .ref rz, .ref ry, .int bz, .int de, .int dp, .int io])), (rx, .inl (cI, 1000, .inl tX))] sz) := by
  refine ig_metI (fun (r : Int32) (u : Unit) => ∃ zr : Nat, r = nI zr ∧ p_RM_itemsFrom tX k a zr ) (fun (u : Unit) => [(o0, .inr (ciRM, [.int th, .ref ra, .int si, .ref rx, .ref rf, .ref rt, .ref rb, .ref rl, .int ru, .ref rp, .ref ru_, .ref rv, .int na, .int nx, .int so, .ref rr, .ref rs, .ref rg, .ref rh, .int pa, .ref rz, .ref ry, .int bz, .int de, .int dp, .int io])), (rx, .inl (cI, 1000, .inl tX))]) (by decide) rfl (Nat.le_of_ble_eq_true rfl) rfl (fun _ _ _ => rfl) ?_
  intro zp ze zs zm zargs zbelow zmeth zc zA zQ hx hb hml hown hts hK hN hA hret
  have hv := t_RM_itemsFrom tX k a hr 
  unfold v_RM_itemsFrom at hv
  refine ig_iload_n hx hb 1 d_RM_itemsFrom_0 rfl rfl ?_
  refine ig_iconst (v := 1) hx hb d_RM_itemsFrom_1 (by decide) ?_
  refine ig_iaddN hx hb k 1 rfl rfl d_RM_itemsFrom_2 ?_
  refine ig_iload_n hx hb 2 d_RM_itemsFrom_3 rfl rfl ?_
  obtain ⟨h1, hv⟩ := hv
  obtain ⟨h2, hv⟩ := hv
  refine ig_icmp_geN (tgt := 39) hx hb (k + 1) a rfl rfl d_RM_itemsFrom_4 (by decide) h1 h2 (fun h => ?_) (fun h => ?_)
  · have hv := hv.1 h
    refine ig_iload_n hx hb 1 d_RM_itemsFrom_39 rfl rfl ?_
    refine ig_iconst (v := 1) hx hb d_RM_itemsFrom_40 (by decide) ?_
    refine ig_iaddN hx hb k 1 rfl rfl d_RM_itemsFrom_41 ?_
    exact hret 42 _ (nI (k + 1)) () d_RM_itemsFrom_42 ⟨k + 1, rfl, hv⟩
  · have hv := hv.2 h
    refine ig_aload_n hx hb 0 d_RM_itemsFrom_7 rfl rfl ?_
    refine ig_get hx hb hts in_RM hown hK 0 rfl rfl 3 (by decide) (hts _ kw_1_148) (fun _ h => h) rfl d_RM_itemsFrom_8 ?_
    refine ig_iload_n hx hb 1 d_RM_itemsFrom_11 rfl rfl ?_
    refine ig_iconst (v := 1) hx hb d_RM_itemsFrom_12 (by decide) ?_
    refine ig_iaddN hx hb k 1 rfl rfl d_RM_itemsFrom_13 ?_
    obtain ⟨hc, hv⟩ := hv
    refine ig_iald (x := (tX (k + 1))) hx hb hK 1 1 rfl rfl (k + 1) rfl hc (by decide) rfl d_RM_itemsFrom_14 ?_
    refine ig_bipush (v := 33) hx hb d_RM_itemsFrom_15 (by decide) ?_
    refine ig_icmp_eq (tgt := 33) hx hb d_RM_itemsFrom_17 (by decide) (fun h => ?_) (fun h => ?_)
    · have hv := hv.1 h
      refine ig_iload_n hx hb 1 d_RM_itemsFrom_33 rfl rfl ?_
      refine ig_iconst (v := 2) hx hb d_RM_itemsFrom_34 (by decide) ?_
      refine ig_iaddN hx hb k 2 rfl rfl d_RM_itemsFrom_35 ?_
      refine ig_goto (tgt := 42) hx hb d_RM_itemsFrom_36 (by decide) ?_
      exact hret 42 _ (nI (k + 2)) () d_RM_itemsFrom_42 ⟨k + 2, rfl, hv⟩
    · have hv := hv.2 h
      refine ig_aload_n hx hb 0 d_RM_itemsFrom_20 rfl rfl ?_
      refine ig_get hx hb hts in_RM hown hK 0 rfl rfl 3 (by decide) (hts _ kw_1_148) (fun _ h => h) rfl d_RM_itemsFrom_21 ?_
      refine ig_iload_n hx hb 1 d_RM_itemsFrom_24 rfl rfl ?_
      refine ig_iconst (v := 1) hx hb d_RM_itemsFrom_25 (by decide) ?_
      refine ig_iaddN hx hb k 1 rfl rfl d_RM_itemsFrom_26 ?_
      obtain ⟨hc, hv⟩ := hv
      refine ig_iald (x := (tX (k + 1))) hx hb hK 1 1 rfl rfl (k + 1) rfl hc (by decide) rfl d_RM_itemsFrom_27 ?_
      refine ig_bipush (v := 94) hx hb d_RM_itemsFrom_28 (by decide) ?_
      refine ig_icmp_ne (tgt := 39) hx hb d_RM_itemsFrom_30 (by decide) (fun h => ?_) (fun h => ?_)
      · have hv := hv.1 h
        refine ig_iload_n hx hb 1 d_RM_itemsFrom_39 rfl rfl ?_
        refine ig_iconst (v := 1) hx hb d_RM_itemsFrom_40 (by decide) ?_
        refine ig_iaddN hx hb k 1 rfl rfl d_RM_itemsFrom_41 ?_
        exact hret 42 _ (nI (k + 1)) () d_RM_itemsFrom_42 ⟨k + 1, rfl, hv⟩
      · have hv := hv.2 h
        refine ig_iload_n hx hb 1 d_RM_itemsFrom_33 rfl rfl ?_
        refine ig_iconst (v := 2) hx hb d_RM_itemsFrom_34 (by decide) ?_
        refine ig_iaddN hx hb k 2 rfl rfl d_RM_itemsFrom_35 ?_
        refine ig_goto (tgt := 42) hx hb d_RM_itemsFrom_36 (by decide) ?_
        exact hret 42 _ (nI (k + 2)) () d_RM_itemsFrom_42 ⟨k + 2, rfl, hv⟩
theorem d_RM_isRow_0 : decode b_RM_isRow 0 = .ok (.iload_n 1, 1) := by decide +kernel
theorem d_RM_isRow_1 : decode b_RM_isRow 1 = .ok (.iconst 1, 1) := by decide +kernel
theorem d_RM_isRow_2 : decode b_RM_isRow 2 = .ok (.iadd, 1) := by decide +kernel
theorem d_RM_isRow_3 : decode b_RM_isRow 3 = .ok (.iload_n 2, 1) := by decide +kernel
theorem d_RM_isRow_4 : decode b_RM_isRow 4 = .ok (.if_icmp .ge 31, 3) := by decide +kernel
theorem d_RM_isRow_7 : decode b_RM_isRow 7 = .ok (.aload_n 0, 1) := by decide +kernel
theorem d_RM_isRow_8 : decode b_RM_isRow 8 = .ok (.getfield 13, 3) := by decide +kernel
theorem d_RM_isRow_11 : decode b_RM_isRow 11 = .ok (.iload_n 1, 1) := by decide +kernel
theorem d_RM_isRow_12 : decode b_RM_isRow 12 = .ok (.iaload, 1) := by decide +kernel
theorem d_RM_isRow_13 : decode b_RM_isRow 13 = .ok (.bipush 45, 2) := by decide +kernel
theorem d_RM_isRow_15 : decode b_RM_isRow 15 = .ok (.if_icmp .ne 20, 3) := by decide +kernel
theorem d_RM_isRow_18 : decode b_RM_isRow 18 = .ok (.aload_n 0, 1) := by decide +kernel
theorem d_RM_isRow_19 : decode b_RM_isRow 19 = .ok (.getfield 13, 3) := by decide +kernel
theorem d_RM_isRow_22 : decode b_RM_isRow 22 = .ok (.iload_n 1, 1) := by decide +kernel
theorem d_RM_isRow_23 : decode b_RM_isRow 23 = .ok (.iconst 1, 1) := by decide +kernel
theorem d_RM_isRow_24 : decode b_RM_isRow 24 = .ok (.iadd, 1) := by decide +kernel
theorem d_RM_isRow_25 : decode b_RM_isRow 25 = .ok (.iaload, 1) := by decide +kernel
theorem d_RM_isRow_26 : decode b_RM_isRow 26 = .ok (.bipush 93, 2) := by decide +kernel
theorem d_RM_isRow_28 : decode b_RM_isRow 28 = .ok (.if_icmp .eq 7, 3) := by decide +kernel
theorem d_RM_isRow_31 : decode b_RM_isRow 31 = .ok (.iconst 1, 1) := by decide +kernel
theorem d_RM_isRow_32 : decode b_RM_isRow 32 = .ok (.goto 4, 3) := by decide +kernel
theorem d_RM_isRow_35 : decode b_RM_isRow 35 = .ok (.iconst 0, 1) := by decide +kernel
theorem d_RM_isRow_36 : decode b_RM_isRow 36 = .ok (.ireturn, 1) := by decide +kernel
abbrev w_RM_isRow : List Cond := Cond.code y_RM_isRow b_RM_isRow 3 (some .boolean) :: ig_T
theorem g_RM_isRow : GoodIn ig_T w_RM_isRow := ig_T_good (ig_T_mem (List.mem_append_right _ (List.mem_append_right _ (List.mem_of_getElem? (i := 52) rfl))) rfl)
set_option maxHeartbeats 4000000 in
set_option maxRecDepth 100000 in
theorem c_RM_isRow (l : Launch) (dC : Nat → ClassId) (dI : Nat → Nat → Nat) (cC cI cZ cL : ClassId) (o0 ra rx rf rt rb rl rp ru_ rv rr rs rg rh rz ry : Nat) (th : Int32) (si : Int32) (ru : Int32) (na : Int32) (nx : Int32) (so : Int32) (pa : Int32) (bz : Int32) (de : Int32) (dp : Int32) (io : Int32) (tX : Nat → Int32) (k : Nat) (a : Nat) (sz : Nat) (hr : r_RM_isRow tX k a) : Met l y_RM_isRow w_RM_isRow ({ frames := 0, cells := 0, slots := 0, locals := 0 }) (ig_Pc (dC, dI) ig_cl0 [(cC, .char), (cI, .int), (cZ, .boolean), (cL, .long)] [.ref o0, .int (nI k), .int (nI a)] [(o0, .inr (ciRM, [.int th, .ref ra, .int si, .ref rx, .ref rf, .ref rt, .ref rb, .ref rl, .int ru, .ref rp, .ref ru_, .ref rv, .int na, .int nx, .int so, .ref rr, .ref rs, .ref rg, .ref rh, .int pa, .ref rz, .ref ry, .int bz, .int de, .int dp, .int io])), (rx, .inl (cI, 1000, .inl tX))] sz) (va_Qi (fun (r : Int32) (u : Unit) => ∃ zr : Bool, r = bI zr ∧ p_RM_isRow tX k a zr ) (fun u t => va_P (dC, dI) ig_cl0 ((fun (u : Unit) => [(o0, .inr (ciRM, [.int th, .ref ra, .int si, .ref rx, .ref rf, .ref rt, .ref rb, .ref rl, .int ru, .ref rp, .ref ru_, .ref rv, .int na, .int nx, .int so, .ref rr, .ref rs, .ref rg, .ref rh, .int pa, .ref rz, .ref ry, .int bz, .int de, .int dp, .int io])), (rx, .inl (cI, 1000, .inl tX))]) u) t.heap ∧ va_D (va_A [(o0, .inr (ciRM, [.int th, .ref ra, .int si, .ref rx, .ref rf, .ref rt, .ref rb, .ref rl, .int ru, .ref rp, .ref ru_, .ref rv, .int na, .int nx, .int so, .ref rr, .ref rs, .ref rg, .ref rh, .int pa, .ref rz, .ref ry, .int bz, .int de, .int dp, .int io])), (rx, .inl (cI, 1000, .inl tX))] sz) ((fun (u : Unit) => [(o0, .inr (ciRM, [.int th, .ref ra, .int si, .ref rx, .ref rf, .ref rt, .ref rb, .ref rl, .int ru, .ref rp, .ref ru_, .ref rv, .int na, .int nx, .int so, .ref rr, .ref rs, .ref rg, .ref rh, .int pa, .ref rz, .ref ry, .int bz, .int de, .int dp, .int io])), (rx, .inl (cI, 1000, .inl tX))]) u)) (va_A [(o0, .inr (ciRM, [.int th, .ref ra, .int si, .ref rx, .ref rf, .ref rt, .ref rb, .ref rl, .int ru, .ref rp, .ref ru_, .ref rv, .int na, .int nx, .int so, .ref rr, .ref rs, .ref rg, .ref rh, .int pa, .ref rz, .ref ry, .int bz, .int de, .int dp, .int io])), (rx, .inl (cI, 1000, .inl tX))] sz)) 0 0 (va_A [(o0, .inr (ciRM, [.int th, .ref ra, .int si, .ref rx, .ref rf, .ref rt, .ref rb, .ref rl, .int ru, .ref rp, .ref ru_, .ref rv, .int na, .int nx, .int so, .ref rr, .ref rs, .ref rg, .ref rh, .int pa, .ref rz, .ref ry, .int bz, .int de, .int dp, .int io])), (rx, .inl (cI, 1000, .inl tX))] sz) := by
  refine ig_metI (fun (r : Int32) (u : Unit) => ∃ zr : Bool, r = bI zr ∧ p_RM_isRow tX k a zr ) (fun (u : Unit) => [(o0, .inr (ciRM, [.int th, .ref ra, .int si, .ref rx, .ref rf, .ref rt, .ref rb, .ref rl, .int ru, .ref rp, .ref ru_, .ref rv, .int na, .int nx, .int so, .ref rr, .ref rs, .ref rg, .ref rh, .int pa, .ref rz, .ref ry, .int bz, .int de, .int dp, .int io])), (rx, .inl (cI, 1000, .inl tX))]) (by decide) rfl (Nat.le_of_ble_eq_true rfl) rfl (by rintro r u ⟨b, rfl, -⟩; exact bI_ret b) ?_
  intro zp ze zs zm zargs zbelow zmeth zc zA zQ hx hb hml hown hts hK hN hA hret
  have hv := t_RM_isRow tX k a hr 
  unfold v_RM_isRow at hv
  refine ig_iload_n hx hb 1 d_RM_isRow_0 rfl rfl ?_
  refine ig_iconst (v := 1) hx hb d_RM_isRow_1 (by decide) ?_
  refine ig_iaddN hx hb k 1 rfl rfl d_RM_isRow_2 ?_
  refine ig_iload_n hx hb 2 d_RM_isRow_3 rfl rfl ?_
  obtain ⟨h1, hv⟩ := hv
  obtain ⟨h2, hv⟩ := hv
  refine ig_icmp_geN (tgt := 35) hx hb (k + 1) a rfl rfl d_RM_isRow_4 (by decide) h1 h2 (fun h => ?_) (fun h => ?_)
  · have hv := hv.1 h
    refine ig_iconst (v := 0) hx hb d_RM_isRow_35 (by decide) ?_
    exact hret 36 _ 0 () d_RM_isRow_36 ⟨false, rfl, hv⟩
  · have hv := hv.2 h
    refine ig_aload_n hx hb 0 d_RM_isRow_7 rfl rfl ?_
    refine ig_get hx hb hts in_RM hown hK 0 rfl rfl 3 (by decide) (hts _ kw_1_148) (fun _ h => h) rfl d_RM_isRow_8 ?_
    refine ig_iload_n hx hb 1 d_RM_isRow_11 rfl rfl ?_
    obtain ⟨hc, hv⟩ := hv
    refine ig_iald (x := (tX k)) hx hb hK 1 1 rfl rfl k rfl hc (by decide) rfl d_RM_isRow_12 ?_
    refine ig_bipush (v := 45) hx hb d_RM_isRow_13 (by decide) ?_
    refine ig_icmp_ne (tgt := 35) hx hb d_RM_isRow_15 (by decide) (fun h => ?_) (fun h => ?_)
    · have hv := hv.1 h
      refine ig_iconst (v := 0) hx hb d_RM_isRow_35 (by decide) ?_
      exact hret 36 _ 0 () d_RM_isRow_36 ⟨false, rfl, hv⟩
    · have hv := hv.2 h
      refine ig_aload_n hx hb 0 d_RM_isRow_18 rfl rfl ?_
      refine ig_get hx hb hts in_RM hown hK 0 rfl rfl 3 (by decide) (hts _ kw_1_148) (fun _ h => h) rfl d_RM_isRow_19 ?_
      refine ig_iload_n hx hb 1 d_RM_isRow_22 rfl rfl ?_
      refine ig_iconst (v := 1) hx hb d_RM_isRow_23 (by decide) ?_
      refine ig_iaddN hx hb k 1 rfl rfl d_RM_isRow_24 ?_
      obtain ⟨hc, hv⟩ := hv
      refine ig_iald (x := (tX (k + 1))) hx hb hK 1 1 rfl rfl (k + 1) rfl hc (by decide) rfl d_RM_isRow_25 ?_
      refine ig_bipush (v := 93) hx hb d_RM_isRow_26 (by decide) ?_
      refine ig_icmp_eq (tgt := 35) hx hb d_RM_isRow_28 (by decide) (fun h => ?_) (fun h => ?_)
      · have hv := hv.1 h
        refine ig_iconst (v := 0) hx hb d_RM_isRow_35 (by decide) ?_
        exact hret 36 _ 0 () d_RM_isRow_36 ⟨false, rfl, hv⟩
      · have hv := hv.2 h
        refine ig_iconst (v := 1) hx hb d_RM_isRow_31 (by decide) ?_
        refine ig_goto (tgt := 36) hx hb d_RM_isRow_32 (by decide) ?_
        exact hret 36 _ 1 () d_RM_isRow_36 ⟨true, rfl, hv⟩
theorem d_RM_setEnd_0 : decode b_RM_setEnd 0 = .ok (.aload_n 0, 1) := by decide +kernel
theorem d_RM_setEnd_1 : decode b_RM_setEnd 1 = .ok (.iload_n 1, 1) := by decide +kernel
theorem d_RM_setEnd_2 : decode b_RM_setEnd 2 = .ok (.iload_n 2, 1) := by decide +kernel
theorem d_RM_setEnd_3 : decode b_RM_setEnd 3 = .ok (.invokevirtual 75, 3) := by decide +kernel
theorem d_RM_setEnd_6 : decode b_RM_setEnd 6 = .ok (.istore_n 3, 1) := by decide +kernel
theorem d_RM_setEnd_7 : decode b_RM_setEnd 7 = .ok (.iconst 1, 1) := by decide +kernel
theorem d_RM_setEnd_8 : decode b_RM_setEnd 8 = .ok (.istore 4, 2) := by decide +kernel
theorem d_RM_setEnd_10 : decode b_RM_setEnd 10 = .ok (.iload_n 3, 1) := by decide +kernel
theorem d_RM_setEnd_11 : decode b_RM_setEnd 11 = .ok (.iload_n 2, 1) := by decide +kernel
theorem d_RM_setEnd_12 : decode b_RM_setEnd 12 = .ok (.if_icmp .ge 48, 3) := by decide +kernel
theorem d_RM_setEnd_15 : decode b_RM_setEnd 15 = .ok (.iload 4, 2) := by decide +kernel
theorem d_RM_setEnd_17 : decode b_RM_setEnd 17 = .ok (.ifCond .ne 14, 3) := by decide +kernel
theorem d_RM_setEnd_20 : decode b_RM_setEnd 20 = .ok (.aload_n 0, 1) := by decide +kernel
theorem d_RM_setEnd_21 : decode b_RM_setEnd 21 = .ok (.getfield 13, 3) := by decide +kernel
theorem d_RM_setEnd_24 : decode b_RM_setEnd 24 = .ok (.iload_n 3, 1) := by decide +kernel
theorem d_RM_setEnd_25 : decode b_RM_setEnd 25 = .ok (.iaload, 1) := by decide +kernel
theorem d_RM_setEnd_26 : decode b_RM_setEnd 26 = .ok (.bipush 93, 2) := by decide +kernel
theorem d_RM_setEnd_28 : decode b_RM_setEnd 28 = .ok (.if_icmp .eq 32, 3) := by decide +kernel
theorem d_RM_setEnd_31 : decode b_RM_setEnd 31 = .ok (.aload_n 0, 1) := by decide +kernel
theorem d_RM_setEnd_32 : decode b_RM_setEnd 32 = .ok (.iload_n 3, 1) := by decide +kernel
theorem d_RM_setEnd_33 : decode b_RM_setEnd 33 = .ok (.invokevirtual 78, 3) := by decide +kernel
theorem d_RM_setEnd_36 : decode b_RM_setEnd 36 = .ok (.istore_n 3, 1) := by decide +kernel
theorem d_RM_setEnd_37 : decode b_RM_setEnd 37 = .ok (.iconst 0, 1) := by decide +kernel
theorem d_RM_setEnd_38 : decode b_RM_setEnd 38 = .ok (.istore 4, 2) := by decide +kernel
theorem d_RM_setEnd_40 : decode b_RM_setEnd 40 = .ok (.aload_n 0, 1) := by decide +kernel
theorem d_RM_setEnd_41 : decode b_RM_setEnd 41 = .ok (.iload_n 3, 1) := by decide +kernel
theorem d_RM_setEnd_42 : decode b_RM_setEnd 42 = .ok (.iload_n 2, 1) := by decide +kernel
theorem d_RM_setEnd_43 : decode b_RM_setEnd 43 = .ok (.invokevirtual 82, 3) := by decide +kernel
theorem d_RM_setEnd_46 : decode b_RM_setEnd 46 = .ok (.ifCond .eq (-36), 3) := by decide +kernel
theorem d_RM_setEnd_49 : decode b_RM_setEnd 49 = .ok (.aload_n 0, 1) := by decide +kernel
theorem d_RM_setEnd_50 : decode b_RM_setEnd 50 = .ok (.iload_n 3, 1) := by decide +kernel
theorem d_RM_setEnd_51 : decode b_RM_setEnd 51 = .ok (.iconst 1, 1) := by decide +kernel
theorem d_RM_setEnd_52 : decode b_RM_setEnd 52 = .ok (.iadd, 1) := by decide +kernel
theorem d_RM_setEnd_53 : decode b_RM_setEnd 53 = .ok (.invokevirtual 78, 3) := by decide +kernel
theorem d_RM_setEnd_56 : decode b_RM_setEnd 56 = .ok (.istore_n 3, 1) := by decide +kernel
theorem d_RM_setEnd_57 : decode b_RM_setEnd 57 = .ok (.goto (-47), 3) := by decide +kernel
theorem d_RM_setEnd_60 : decode b_RM_setEnd 60 = .ok (.iload_n 3, 1) := by decide +kernel
theorem d_RM_setEnd_61 : decode b_RM_setEnd 61 = .ok (.iload_n 2, 1) := by decide +kernel
theorem d_RM_setEnd_62 : decode b_RM_setEnd 62 = .ok (.if_icmp .ge 9, 3) := by decide +kernel
theorem d_RM_setEnd_65 : decode b_RM_setEnd 65 = .ok (.iload_n 3, 1) := by decide +kernel
theorem d_RM_setEnd_66 : decode b_RM_setEnd 66 = .ok (.iconst 1, 1) := by decide +kernel
theorem d_RM_setEnd_67 : decode b_RM_setEnd 67 = .ok (.iadd, 1) := by decide +kernel
theorem d_RM_setEnd_68 : decode b_RM_setEnd 68 = .ok (.goto 6, 3) := by decide +kernel
theorem d_RM_setEnd_71 : decode b_RM_setEnd 71 = .ok (.iload_n 2, 1) := by decide +kernel
theorem d_RM_setEnd_72 : decode b_RM_setEnd 72 = .ok (.iconst 1, 1) := by decide +kernel
theorem d_RM_setEnd_73 : decode b_RM_setEnd 73 = .ok (.iadd, 1) := by decide +kernel
theorem d_RM_setEnd_74 : decode b_RM_setEnd 74 = .ok (.ireturn, 1) := by decide +kernel
abbrev w_RM_setEnd : List Cond := Cond.code y_RM_setEnd b_RM_setEnd 5 (some .int) :: ig_T
theorem g_RM_setEnd : GoodIn ig_T w_RM_setEnd := ig_T_good (ig_T_mem (List.mem_append_right _ (List.mem_append_right _ (List.mem_of_getElem? (i := 40) rfl))) rfl)
set_option maxHeartbeats 4000000 in
set_option maxRecDepth 100000 in
theorem c_RM_setEnd (l : Launch) (dC : Nat → ClassId) (dI : Nat → Nat → Nat) (cC cI cZ cL : ClassId) (o0 ra rx rf rt rb rl rp ru_ rv rr rs rg rh rz ry : Nat) (th : Int32) (si : Int32) (ru : Int32) (na : Int32) (nx : Int32) (so : Int32) (pa : Int32) (bz : Int32) (de : Int32) (dp : Int32) (io : Int32) (tX : Nat → Int32) (k : Nat) (a : Nat) (sz : Nat) (hr : r_RM_setEnd tX k a) : Met l y_RM_setEnd w_RM_setEnd ({ frames := 1, cells := 0, slots := 0, locals := 22 }) (ig_Pc (dC, dI) ig_cl0 [(cC, .char), (cI, .int), (cZ, .boolean), (cL, .long)] [.ref o0, .int (nI k), .int (nI a)] [(o0, .inr (ciRM, [.int th, .ref ra, .int si, .ref rx, .ref rf, .ref rt, .ref rb, .ref rl, .int ru, .ref rp, .ref ru_, .ref rv, .int na, .int nx, .int so, .ref rr, .ref rs, .ref rg, .ref rh, .int pa, .ref rz, .ref ry, .int bz, .int de, .int dp, .int io])), (rx, .inl (cI, 1000, .inl tX))] sz) (va_Qi (fun (r : Int32) (u : Unit) => ∃ zr : Nat, r = nI zr ∧ p_RM_setEnd tX k a zr ) (fun u t => va_P (dC, dI) ig_cl0 ((fun (u : Unit) => [(o0, .inr (ciRM, [.int th, .ref ra, .int si, .ref rx, .ref rf, .ref rt, .ref rb, .ref rl, .int ru, .ref rp, .ref ru_, .ref rv, .int na, .int nx, .int so, .ref rr, .ref rs, .ref rg, .ref rh, .int pa, .ref rz, .ref ry, .int bz, .int de, .int dp, .int io])), (rx, .inl (cI, 1000, .inl tX))]) u) t.heap ∧ va_D (va_A [(o0, .inr (ciRM, [.int th, .ref ra, .int si, .ref rx, .ref rf, .ref rt, .ref rb, .ref rl, .int ru, .ref rp, .ref ru_, .ref rv, .int na, .int nx, .int so, .ref rr, .ref rs, .ref rg, .ref rh, .int pa, .ref rz, .ref ry, .int bz, .int de, .int dp, .int io])), (rx, .inl (cI, 1000, .inl tX))] sz) ((fun (u : Unit) => [(o0, .inr (ciRM, [.int th, .ref ra, .int si, .ref rx, .ref rf, .ref rt, .ref rb, .ref rl, .int ru, .ref rp, .ref ru_, .ref rv, .int na, .int nx, .int so, .ref rr, .ref rs, .ref rg, .ref rh, .int pa, .ref rz, .ref ry, .int bz, .int de, .int dp, .int io])), (rx, .inl (cI, 1000, .inl tX))]) u)) (va_A [(o0, .inr (ciRM, [.int th, .ref ra, .int si, .ref rx, .ref rf, .ref rt, .ref rb, .ref rl, .int ru, .ref rp, .ref ru_, .ref rv, .int na, .int nx, .int so, .ref rr, .ref rs, .ref rg, .ref rh, .int pa, .ref rz, .ref ry, .int bz, .int de, .int dp, .int io])), (rx, .inl (cI, 1000, .inl tX))] sz)) 0 0 (va_A [(o0, .inr (ciRM, [.int th, .ref ra, .int si, .ref rx, .ref rf, .ref rt, .ref rb, .ref rl, .int ru, .ref rp, .ref ru_, .ref rv, .int na, .int nx, .int so, .ref rr, .ref rs, .ref rg, .ref rh, .int pa, .ref rz, .ref ry, .int bz, .int de, .int dp, .int io])), (rx, .inl (cI, 1000, .inl tX))] sz) := by
  refine ig_metI (fun (r : Int32) (u : Unit) => ∃ zr : Nat, r = nI zr ∧ p_RM_setEnd tX k a zr ) (fun (u : Unit) => [(o0, .inr (ciRM, [.int th, .ref ra, .int si, .ref rx, .ref rf, .ref rt, .ref rb, .ref rl, .int ru, .ref rp, .ref ru_, .ref rv, .int na, .int nx, .int so, .ref rr, .ref rs, .ref rg, .ref rh, .int pa, .ref rz, .ref ry, .int bz, .int de, .int dp, .int io])), (rx, .inl (cI, 1000, .inl tX))]) (by decide) rfl (Nat.le_of_ble_eq_true rfl) rfl (fun _ _ _ => rfl) ?_
  intro zp ze zs zm zargs zbelow zmeth zc zA zQ hx hb hml hown hts hK hN hA hret
  obtain ⟨K10, hK10⟩ : ∃ K : Nat → Bool → Prop, K = fun (b : Nat) (fi : Bool) => ig_W zp l ze ({ frames := 1, cells := 0, slots := 0, locals := 22 }) zs zm zargs zbelow zmeth zc (dC, dI) ig_cl0 zA zs.heap 5 0 0 zQ 10 [(0, .ref o0), (2, .int (nI a)), (3, .int (nI b)), (4, .int (bI fi))] [] [(o0, .inr (ciRM, [.int th, .ref ra, .int si, .ref rx, .ref rf, .ref rt, .ref rb, .ref rl, .int ru, .ref rp, .ref ru_, .ref rv, .int na, .int nx, .int so, .ref rr, .ref rs, .ref rg, .ref rh, .int pa, .ref rz, .ref ry, .int bz, .int de, .int dp, .int io])), (rx, .inl (cI, 1000, .inl tX))] := ⟨_, rfl⟩
  have j60 : ∀ (b : Nat), v_RM_setEnd_60 tX k a K10 (p_RM_setEnd tX k a) b → ig_W zp l ze ({ frames := 1, cells := 0, slots := 0, locals := 22 }) zs zm zargs zbelow zmeth zc (dC, dI) ig_cl0 zA zs.heap 5 0 0 zQ 60 [(2, .int (nI a)), (3, .int (nI b))] [] [(o0, .inr (ciRM, [.int th, .ref ra, .int si, .ref rx, .ref rf, .ref rt, .ref rb, .ref rl, .int ru, .ref rp, .ref ru_, .ref rv, .int na, .int nx, .int so, .ref rr, .ref rs, .ref rg, .ref rh, .int pa, .ref rz, .ref ry, .int bz, .int de, .int dp, .int io])), (rx, .inl (cI, 1000, .inl tX))] := by
    intro b hv
    unfold v_RM_setEnd_60 at hv
    refine ig_iload_n hx hb 1 d_RM_setEnd_60 rfl rfl ?_
    refine ig_iload_n hx hb 0 d_RM_setEnd_61 rfl rfl ?_
    obtain ⟨h1, hv⟩ := hv
    obtain ⟨h2, hv⟩ := hv
    refine ig_icmp_geN (tgt := 71) hx hb b a rfl rfl d_RM_setEnd_62 (by decide) h1 h2 (fun h => ?_) (fun h => ?_)
    · have hv := hv.1 h
      refine ig_iload_n hx hb 0 d_RM_setEnd_71 rfl rfl ?_
      refine ig_iconst (v := 1) hx hb d_RM_setEnd_72 (by decide) ?_
      refine ig_iaddN hx hb a 1 rfl rfl d_RM_setEnd_73 ?_
      exact hret 74 _ (nI (a + 1)) () d_RM_setEnd_74 ⟨a + 1, rfl, hv⟩
    · have hv := hv.2 h
      refine ig_iload_n hx hb 1 d_RM_setEnd_65 rfl rfl ?_
      refine ig_iconst (v := 1) hx hb d_RM_setEnd_66 (by decide) ?_
      refine ig_iaddN hx hb b 1 rfl rfl d_RM_setEnd_67 ?_
      refine ig_goto (tgt := 74) hx hb d_RM_setEnd_68 (by decide) ?_
      exact hret 74 _ (nI (b + 1)) () d_RM_setEnd_74 ⟨b + 1, rfl, hv⟩
  have j31 : ∀ (b : Nat), v_RM_setEnd_31 tX k a K10 (p_RM_setEnd tX k a) b → ig_W zp l ze ({ frames := 1, cells := 0, slots := 0, locals := 22 }) zs zm zargs zbelow zmeth zc (dC, dI) ig_cl0 zA zs.heap 5 0 0 zQ 31 [(0, .ref o0), (2, .int (nI a)), (3, .int (nI b))] [] [(o0, .inr (ciRM, [.int th, .ref ra, .int si, .ref rx, .ref rf, .ref rt, .ref rb, .ref rl, .int ru, .ref rp, .ref ru_, .ref rv, .int na, .int nx, .int so, .ref rr, .ref rs, .ref rg, .ref rh, .int pa, .ref rz, .ref ry, .int bz, .int de, .int dp, .int io])), (rx, .inl (cI, 1000, .inl tX))] := by
    intro b hv
    unfold v_RM_setEnd_31 at hv
    refine ig_aload_n hx hb 0 d_RM_setEnd_31 rfl rfl ?_
    refine ig_iload_n hx hb 2 d_RM_setEnd_32 rfl rfl ?_
    obtain ⟨hc, hv⟩ := hv
    refine ig_cVi (As := [.int (nI b)]) (rest := []) (wr := []) (ws' := fun u => [(o0, .inr (ciRM, [.int th, .ref ra, .int si, .ref rx, .ref rf, .ref rt, .ref rb, .ref rl, .int ru, .ref rp, .ref ru_, .ref rv, .int na, .int nx, .int so, .ref rr, .ref rs, .ref rg, .ref rh, .int pa, .ref rz, .ref ry, .int bz, .int de, .int dp, .int io])), (rx, .inl (cI, 1000, .inl tX))]) hx hb hml hown hts hK hN hA (fun sz => c_RM_itemEnd l dC dI cC cI cZ cL o0 ra rx rf rt rb rl rp ru_ rv rr rs rg rh rz ry th si ru na nx so pa bz de dp io tX b sz hc) ⟨callB_of 1 hts g_RM_itemEnd rfl rfl rfl (hts _ kw_0_5) (hts _ kw_2_45) (by decide +kernel) (by decide), (hts _ kw_2_47), (hts _ ks_RM_itemEnd)⟩ rfl rfl (Nat.le_of_ble_eq_true rfl) d_RM_setEnd_33 (by decide) 0 rfl rfl [0, 1] [] [0, 1] rfl rfl (by decide) (by decide) (by decide) (fun _ => rfl) (fun _ => rfl) (fun r u hr => ?_)
    obtain ⟨rr, rfl, hr⟩ := hr
    unfold p_RM_itemEnd at hr
    subst hr
    refine ig_istore_n (lv' := [(3, .int (nI (sp_tok tX b))), (0, .ref o0), (2, .int (nI a))]) hx hb d_RM_setEnd_36 rfl (by decide) rfl ?_
    refine ig_iconst (v := 0) hx hb d_RM_setEnd_37 (by decide) ?_
    refine ig_istore (lv' := [(4, .int 0), (3, .int (nI (sp_tok tX b))), (0, .ref o0), (2, .int (nI a))]) hx hb d_RM_setEnd_38 (by decide) rfl ?_
    refine ig_aload_n hx hb 2 d_RM_setEnd_40 rfl rfl ?_
    refine ig_iload_n hx hb 1 d_RM_setEnd_41 rfl rfl ?_
    refine ig_iload_n hx hb 3 d_RM_setEnd_42 rfl rfl ?_
    obtain ⟨hc, hv⟩ := hv
    refine ig_cVi (As := [.int (nI (sp_tok tX b)), .int (nI a)]) (rest := []) (wr := []) (ws' := fun u => [(o0, .inr (ciRM, [.int th, .ref ra, .int si, .ref rx, .ref rf, .ref rt, .ref rb, .ref rl, .int ru, .ref rp, .ref ru_, .ref rv, .int na, .int nx, .int so, .ref rr, .ref rs, .ref rg, .ref rh, .int pa, .ref rz, .ref ry, .int bz, .int de, .int dp, .int io])), (rx, .inl (cI, 1000, .inl tX))]) hx hb hml hown hts hK hN hA (fun sz => c_RM_isRow l dC dI cC cI cZ cL o0 ra rx rf rt rb rl rp ru_ rv rr rs rg rh rz ry th si ru na nx so pa bz de dp io tX (sp_tok tX b) a sz hc) ⟨callB_of 2 hts g_RM_isRow rfl rfl rfl (hts _ kw_0_5) (hts _ kw_2_49) (by decide +kernel) (by decide), (hts _ kw_2_51), (hts _ ks_RM_isRow)⟩ rfl rfl (Nat.le_of_ble_eq_true rfl) d_RM_setEnd_43 (by decide) 0 rfl rfl [0, 1] [] [0, 1] rfl rfl (by decide) (by decide) (by decide) (fun _ => rfl) (fun _ => rfl) (fun r u hr => ?_)
    obtain ⟨rr, rfl, hr⟩ := hr
    unfold p_RM_isRow at hr
    subst hr
    refine ig_if_eqB (tgt := 10) hx hb (sp_row tX a (sp_tok tX b)) rfl d_RM_setEnd_46 (by decide) (fun h => ?_) (fun h => ?_)
    · have hv := hv.1 h
      refine ig_lv (lv' := [(0, .ref o0), (2, .int (nI a)), (3, .int (nI (sp_tok tX b))), (4, .int 0)]) [2, 3, 1, 0] rfl ?_
      rw [hK10] at hv
      exact hv
    · have hv := hv.2 h
      refine ig_aload_n hx hb 2 d_RM_setEnd_49 rfl rfl ?_
      refine ig_iload_n hx hb 1 d_RM_setEnd_50 rfl rfl ?_
      refine ig_iconst (v := 1) hx hb d_RM_setEnd_51 (by decide) ?_
      refine ig_iaddN hx hb (sp_tok tX b) 1 rfl rfl d_RM_setEnd_52 ?_
      obtain ⟨hc, hv⟩ := hv
      refine ig_cVi (As := [.int (nI ((sp_tok tX b) + 1))]) (rest := []) (wr := []) (ws' := fun u => [(o0, .inr (ciRM, [.int th, .ref ra, .int si, .ref rx, .ref rf, .ref rt, .ref rb, .ref rl, .int ru, .ref rp, .ref ru_, .ref rv, .int na, .int nx, .int so, .ref rr, .ref rs, .ref rg, .ref rh, .int pa, .ref rz, .ref ry, .int bz, .int de, .int dp, .int io])), (rx, .inl (cI, 1000, .inl tX))]) hx hb hml hown hts hK hN hA (fun sz => c_RM_itemEnd l dC dI cC cI cZ cL o0 ra rx rf rt rb rl rp ru_ rv rr rs rg rh rz ry th si ru na nx so pa bz de dp io tX ((sp_tok tX b) + 1) sz hc) ⟨callB_of 1 hts g_RM_itemEnd rfl rfl rfl (hts _ kw_0_5) (hts _ kw_2_45) (by decide +kernel) (by decide), (hts _ kw_2_47), (hts _ ks_RM_itemEnd)⟩ rfl rfl (Nat.le_of_ble_eq_true rfl) d_RM_setEnd_53 (by decide) 0 rfl rfl [0, 1] [] [0, 1] rfl rfl (by decide) (by decide) (by decide) (fun _ => rfl) (fun _ => rfl) (fun r u hr => ?_)
      obtain ⟨rr, rfl, hr⟩ := hr
      unfold p_RM_itemEnd at hr
      subst hr
      refine ig_istore_n (lv' := [(3, .int (nI (sp_tok tX ((sp_tok tX b) + 1)))), (4, .int 0), (0, .ref o0), (2, .int (nI a))]) hx hb d_RM_setEnd_56 rfl (by decide) rfl ?_
      refine ig_goto (tgt := 10) hx hb d_RM_setEnd_57 (by decide) ?_
      refine ig_lv (lv' := [(0, .ref o0), (2, .int (nI a)), (3, .int (nI (sp_tok tX ((sp_tok tX b) + 1)))), (4, .int 0)]) [2, 3, 0, 1] rfl ?_
      rw [hK10] at hv
      exact hv
  have k10 : ∀ (b : Nat) (fi : Bool), v_RM_setEnd_10 tX k a K10 (p_RM_setEnd tX k a) b fi → K10 b fi := by
    intro b fi hv
    unfold v_RM_setEnd_10 at hv
    rw [hK10]
    show ig_W zp l ze ({ frames := 1, cells := 0, slots := 0, locals := 22 }) zs zm zargs zbelow zmeth zc (dC, dI) ig_cl0 zA zs.heap 5 0 0 zQ 10 [(0, .ref o0), (2, .int (nI a)), (3, .int (nI b)), (4, .int (bI fi))] [] [(o0, .inr (ciRM, [.int th, .ref ra, .int si, .ref rx, .ref rf, .ref rt, .ref rb, .ref rl, .int ru, .ref rp, .ref ru_, .ref rv, .int na, .int nx, .int so, .ref rr, .ref rs, .ref rg, .ref rh, .int pa, .ref rz, .ref ry, .int bz, .int de, .int dp, .int io])), (rx, .inl (cI, 1000, .inl tX))]
    refine ig_iload_n hx hb 2 d_RM_setEnd_10 rfl rfl ?_
    refine ig_iload_n hx hb 1 d_RM_setEnd_11 rfl rfl ?_
    obtain ⟨h1, hv⟩ := hv
    obtain ⟨h2, hv⟩ := hv
    refine ig_icmp_geN (tgt := 60) hx hb b a rfl rfl d_RM_setEnd_12 (by decide) h1 h2 (fun h => ?_) (fun h => ?_)
    · have hv := hv.1 h
      refine ig_lv (lv' := [(2, .int (nI a)), (3, .int (nI b))]) [1, 2] rfl ?_
      exact j60 _ hv
    · have hv := hv.2 h
      refine ig_iload hx hb 3 d_RM_setEnd_15 rfl ?_
      refine ig_if_neB (tgt := 31) hx hb fi rfl d_RM_setEnd_17 (by decide) (fun h => ?_) (fun h => ?_)
      · have hv := hv.1 h
        refine ig_lv (lv' := [(0, .ref o0), (2, .int (nI a)), (3, .int (nI b))]) [0, 1, 2] rfl ?_
        exact j31 _ hv
      · have hv := hv.2 h
        refine ig_aload_n hx hb 0 d_RM_setEnd_20 rfl rfl ?_
        refine ig_get hx hb hts in_RM hown hK 0 rfl rfl 3 (by decide) (hts _ kw_1_148) (fun _ h => h) rfl d_RM_setEnd_21 ?_
        refine ig_iload_n hx hb 2 d_RM_setEnd_24 rfl rfl ?_
        obtain ⟨hc, hv⟩ := hv
        refine ig_iald (x := (tX b)) hx hb hK 1 1 rfl rfl b rfl hc (by decide) rfl d_RM_setEnd_25 ?_
        refine ig_bipush (v := 93) hx hb d_RM_setEnd_26 (by decide) ?_
        refine ig_icmp_eq (tgt := 60) hx hb d_RM_setEnd_28 (by decide) (fun h => ?_) (fun h => ?_)
        · have hv := hv.1 h
          refine ig_lv (lv' := [(2, .int (nI a)), (3, .int (nI b))]) [1, 2] rfl ?_
          exact j60 _ hv
        · have hv := hv.2 h
          refine ig_lv (lv' := [(0, .ref o0), (2, .int (nI a)), (3, .int (nI b))]) [0, 1, 2] rfl ?_
          exact j31 _ hv
  have hv := t_RM_setEnd tX k a hr K10 k10
  unfold v_RM_setEnd at hv
  refine ig_aload_n hx hb 0 d_RM_setEnd_0 rfl rfl ?_
  refine ig_iload_n hx hb 1 d_RM_setEnd_1 rfl rfl ?_
  refine ig_iload_n hx hb 2 d_RM_setEnd_2 rfl rfl ?_
  obtain ⟨hc, hv⟩ := hv
  refine ig_cVi (As := [.int (nI k), .int (nI a)]) (rest := []) (wr := []) (ws' := fun u => [(o0, .inr (ciRM, [.int th, .ref ra, .int si, .ref rx, .ref rf, .ref rt, .ref rb, .ref rl, .int ru, .ref rp, .ref ru_, .ref rv, .int na, .int nx, .int so, .ref rr, .ref rs, .ref rg, .ref rh, .int pa, .ref rz, .ref ry, .int bz, .int de, .int dp, .int io])), (rx, .inl (cI, 1000, .inl tX))]) hx hb hml hown hts hK hN hA (fun sz => c_RM_itemsFrom l dC dI cC cI cZ cL o0 ra rx rf rt rb rl rp ru_ rv rr rs rg rh rz ry th si ru na nx so pa bz de dp io tX k a sz hc) ⟨callB_of 2 hts g_RM_itemsFrom rfl rfl rfl (hts _ kw_0_5) (hts _ kw_2_41) (by decide +kernel) (by decide), (hts _ kw_2_43), (hts _ ks_RM_itemsFrom)⟩ rfl rfl (Nat.le_of_ble_eq_true rfl) d_RM_setEnd_3 (by decide) 0 rfl rfl [0, 1] [] [0, 1] rfl rfl (by decide) (by decide) (by decide) (fun _ => rfl) (fun _ => rfl) (fun r u hr => ?_)
  obtain ⟨rr, rfl, hr⟩ := hr
  unfold p_RM_itemsFrom at hr
  subst hr
  refine ig_istore_n (lv' := [(3, .int (nI (sp_sf tX a k))), (0, .ref o0), (1, .int (nI k)), (2, .int (nI a))]) hx hb d_RM_setEnd_6 rfl (by decide) rfl ?_
  refine ig_iconst (v := 1) hx hb d_RM_setEnd_7 (by decide) ?_
  refine ig_istore (lv' := [(4, .int 1), (3, .int (nI (sp_sf tX a k))), (0, .ref o0), (1, .int (nI k)), (2, .int (nI a))]) hx hb d_RM_setEnd_8 (by decide) rfl ?_
  refine ig_lv (lv' := [(0, .ref o0), (2, .int (nI a)), (3, .int (nI (sp_sf tX a k))), (4, .int 1)]) [2, 4, 1, 0] rfl ?_
  rw [hK10] at hv
  exact hv
theorem d_RM_isInSet_0 : decode b_RM_isInSet 0 = .ok (.aload_n 0, 1) := by decide +kernel
theorem d_RM_isInSet_1 : decode b_RM_isInSet 1 = .ok (.iload_n 1, 1) := by decide +kernel
theorem d_RM_isInSet_2 : decode b_RM_isInSet 2 = .ok (.iload_n 2, 1) := by decide +kernel
theorem d_RM_isInSet_3 : decode b_RM_isInSet 3 = .ok (.invokevirtual 75, 3) := by decide +kernel
theorem d_RM_isInSet_6 : decode b_RM_isInSet 6 = .ok (.istore 4, 2) := by decide +kernel
theorem d_RM_isInSet_8 : decode b_RM_isInSet 8 = .ok (.iload 4, 2) := by decide +kernel
theorem d_RM_isInSet_10 : decode b_RM_isInSet 10 = .ok (.iload_n 1, 1) := by decide +kernel
theorem d_RM_isInSet_11 : decode b_RM_isInSet 11 = .ok (.iconst 2, 1) := by decide +kernel
theorem d_RM_isInSet_12 : decode b_RM_isInSet 12 = .ok (.iadd, 1) := by decide +kernel
theorem d_RM_isInSet_13 : decode b_RM_isInSet 13 = .ok (.if_icmp .ne 7, 3) := by decide +kernel
theorem d_RM_isInSet_16 : decode b_RM_isInSet 16 = .ok (.iconst 1, 1) := by decide +kernel
theorem d_RM_isInSet_17 : decode b_RM_isInSet 17 = .ok (.goto 4, 3) := by decide +kernel
theorem d_RM_isInSet_20 : decode b_RM_isInSet 20 = .ok (.iconst 0, 1) := by decide +kernel
theorem d_RM_isInSet_21 : decode b_RM_isInSet 21 = .ok (.istore 5, 2) := by decide +kernel
theorem d_RM_isInSet_23 : decode b_RM_isInSet 23 = .ok (.iconst 1, 1) := by decide +kernel
theorem d_RM_isInSet_24 : decode b_RM_isInSet 24 = .ok (.istore 6, 2) := by decide +kernel
theorem d_RM_isInSet_26 : decode b_RM_isInSet 26 = .ok (.iconst 0, 1) := by decide +kernel
theorem d_RM_isInSet_27 : decode b_RM_isInSet 27 = .ok (.istore 7, 2) := by decide +kernel
theorem d_RM_isInSet_29 : decode b_RM_isInSet 29 = .ok (.iload 6, 2) := by decide +kernel
theorem d_RM_isInSet_31 : decode b_RM_isInSet 31 = .ok (.ifCond .ne 15, 3) := by decide +kernel
theorem d_RM_isInSet_34 : decode b_RM_isInSet 34 = .ok (.aload_n 0, 1) := by decide +kernel
theorem d_RM_isInSet_35 : decode b_RM_isInSet 35 = .ok (.getfield 13, 3) := by decide +kernel
theorem d_RM_isInSet_38 : decode b_RM_isInSet 38 = .ok (.iload 4, 2) := by decide +kernel
theorem d_RM_isInSet_40 : decode b_RM_isInSet 40 = .ok (.iaload, 1) := by decide +kernel
theorem d_RM_isInSet_41 : decode b_RM_isInSet 41 = .ok (.bipush 93, 2) := by decide +kernel
theorem d_RM_isInSet_43 : decode b_RM_isInSet 43 = .ok (.if_icmp .eq 83, 3) := by decide +kernel
theorem d_RM_isInSet_46 : decode b_RM_isInSet 46 = .ok (.aload_n 0, 1) := by decide +kernel
theorem d_RM_isInSet_47 : decode b_RM_isInSet 47 = .ok (.iload 4, 2) := by decide +kernel
theorem d_RM_isInSet_49 : decode b_RM_isInSet 49 = .ok (.invokevirtual 86, 3) := by decide +kernel
theorem d_RM_isInSet_52 : decode b_RM_isInSet 52 = .ok (.istore 8, 2) := by decide +kernel
theorem d_RM_isInSet_54 : decode b_RM_isInSet 54 = .ok (.iload 8, 2) := by decide +kernel
theorem d_RM_isInSet_56 : decode b_RM_isInSet 56 = .ok (.istore 9, 2) := by decide +kernel
theorem d_RM_isInSet_58 : decode b_RM_isInSet 58 = .ok (.aload_n 0, 1) := by decide +kernel
theorem d_RM_isInSet_59 : decode b_RM_isInSet 59 = .ok (.iload 4, 2) := by decide +kernel
theorem d_RM_isInSet_61 : decode b_RM_isInSet 61 = .ok (.invokevirtual 78, 3) := by decide +kernel
theorem d_RM_isInSet_64 : decode b_RM_isInSet 64 = .ok (.istore 4, 2) := by decide +kernel
theorem d_RM_isInSet_66 : decode b_RM_isInSet 66 = .ok (.iconst 0, 1) := by decide +kernel
theorem d_RM_isInSet_67 : decode b_RM_isInSet 67 = .ok (.istore 6, 2) := by decide +kernel
theorem d_RM_isInSet_69 : decode b_RM_isInSet 69 = .ok (.aload_n 0, 1) := by decide +kernel
theorem d_RM_isInSet_70 : decode b_RM_isInSet 70 = .ok (.iload 4, 2) := by decide +kernel
theorem d_RM_isInSet_72 : decode b_RM_isInSet 72 = .ok (.iload_n 2, 1) := by decide +kernel
theorem d_RM_isInSet_73 : decode b_RM_isInSet 73 = .ok (.invokevirtual 82, 3) := by decide +kernel
theorem d_RM_isInSet_76 : decode b_RM_isInSet 76 = .ok (.ifCond .eq 23, 3) := by decide +kernel
theorem d_RM_isInSet_79 : decode b_RM_isInSet 79 = .ok (.aload_n 0, 1) := by decide +kernel
theorem d_RM_isInSet_80 : decode b_RM_isInSet 80 = .ok (.iload 4, 2) := by decide +kernel
theorem d_RM_isInSet_82 : decode b_RM_isInSet 82 = .ok (.iconst 1, 1) := by decide +kernel
theorem d_RM_isInSet_83 : decode b_RM_isInSet 83 = .ok (.iadd, 1) := by decide +kernel
theorem d_RM_isInSet_84 : decode b_RM_isInSet 84 = .ok (.invokevirtual 86, 3) := by decide +kernel
theorem d_RM_isInSet_87 : decode b_RM_isInSet 87 = .ok (.istore 9, 2) := by decide +kernel
theorem d_RM_isInSet_89 : decode b_RM_isInSet 89 = .ok (.aload_n 0, 1) := by decide +kernel
theorem d_RM_isInSet_90 : decode b_RM_isInSet 90 = .ok (.iload 4, 2) := by decide +kernel
theorem d_RM_isInSet_92 : decode b_RM_isInSet 92 = .ok (.iconst 1, 1) := by decide +kernel
theorem d_RM_isInSet_93 : decode b_RM_isInSet 93 = .ok (.iadd, 1) := by decide +kernel
theorem d_RM_isInSet_94 : decode b_RM_isInSet 94 = .ok (.invokevirtual 78, 3) := by decide +kernel
theorem d_RM_isInSet_97 : decode b_RM_isInSet 97 = .ok (.istore 4, 2) := by decide +kernel
theorem d_RM_isInSet_99 : decode b_RM_isInSet 99 = .ok (.iload 7, 2) := by decide +kernel
theorem d_RM_isInSet_101 : decode b_RM_isInSet 101 = .ok (.ifCond .ne 15, 3) := by decide +kernel
theorem d_RM_isInSet_104 : decode b_RM_isInSet 104 = .ok (.iload_n 3, 1) := by decide +kernel
theorem d_RM_isInSet_105 : decode b_RM_isInSet 105 = .ok (.iload 8, 2) := by decide +kernel
theorem d_RM_isInSet_107 : decode b_RM_isInSet 107 = .ok (.if_icmp .lt 13, 3) := by decide +kernel
theorem d_RM_isInSet_110 : decode b_RM_isInSet 110 = .ok (.iload_n 3, 1) := by decide +kernel
theorem d_RM_isInSet_111 : decode b_RM_isInSet 111 = .ok (.iload 9, 2) := by decide +kernel
theorem d_RM_isInSet_113 : decode b_RM_isInSet 113 = .ok (.if_icmp .gt 7, 3) := by decide +kernel
theorem d_RM_isInSet_116 : decode b_RM_isInSet 116 = .ok (.iconst 1, 1) := by decide +kernel
theorem d_RM_isInSet_117 : decode b_RM_isInSet 117 = .ok (.goto 4, 3) := by decide +kernel
theorem d_RM_isInSet_120 : decode b_RM_isInSet 120 = .ok (.iconst 0, 1) := by decide +kernel
theorem d_RM_isInSet_121 : decode b_RM_isInSet 121 = .ok (.istore 7, 2) := by decide +kernel
theorem d_RM_isInSet_123 : decode b_RM_isInSet 123 = .ok (.goto (-94), 3) := by decide +kernel
theorem d_RM_isInSet_126 : decode b_RM_isInSet 126 = .ok (.iload 7, 2) := by decide +kernel
theorem d_RM_isInSet_128 : decode b_RM_isInSet 128 = .ok (.iload 5, 2) := by decide +kernel
theorem d_RM_isInSet_130 : decode b_RM_isInSet 130 = .ok (.if_icmp .eq 7, 3) := by decide +kernel
theorem d_RM_isInSet_133 : decode b_RM_isInSet 133 = .ok (.iconst 1, 1) := by decide +kernel
theorem d_RM_isInSet_134 : decode b_RM_isInSet 134 = .ok (.goto 4, 3) := by decide +kernel
theorem d_RM_isInSet_137 : decode b_RM_isInSet 137 = .ok (.iconst 0, 1) := by decide +kernel
theorem d_RM_isInSet_138 : decode b_RM_isInSet 138 = .ok (.ireturn, 1) := by decide +kernel
abbrev w_RM_isInSet : List Cond := Cond.code y_RM_isInSet b_RM_isInSet 10 (some .boolean) :: ig_T
theorem g_RM_isInSet : GoodIn ig_T w_RM_isInSet := ig_T_good (ig_T_mem (List.mem_append_right _ (List.mem_append_right _ (List.mem_of_getElem? (i := 100) rfl))) rfl)
set_option maxHeartbeats 4000000 in
set_option maxRecDepth 100000 in
theorem c_RM_isInSet (l : Launch) (dC : Nat → ClassId) (dI : Nat → Nat → Nat) (cC cI cZ cL : ClassId) (o0 ra rx rf rt rb rl rp ru_ rv rr rs rg rh rz ry : Nat) (th : Int32) (si : Int32) (ru : Int32) (na : Int32) (nx : Int32) (so : Int32) (pa : Int32) (bz : Int32) (de : Int32) (dp : Int32) (io : Int32) (tX : Nat → Int32) (k : Nat) (a : Nat) (x : Int32) (sz : Nat) (hr : r_RM_isInSet tX k a x) : Met l y_RM_isInSet w_RM_isInSet ({ frames := 1, cells := 0, slots := 0, locals := 22 }) (ig_Pc (dC, dI) ig_cl0 [(cC, .char), (cI, .int), (cZ, .boolean), (cL, .long)] [.ref o0, .int (nI k), .int (nI a), .int x] [(o0, .inr (ciRM, [.int th, .ref ra, .int si, .ref rx, .ref rf, .ref rt, .ref rb, .ref rl, .int ru, .ref rp, .ref ru_, .ref rv, .int na, .int nx, .int so, .ref rr, .ref rs, .ref rg, .ref rh, .int pa, .ref rz, .ref ry, .int bz, .int de, .int dp, .int io])), (rx, .inl (cI, 1000, .inl tX))] sz) (va_Qi (fun (r : Int32) (u : Unit) => ∃ zr : Bool, r = bI zr ∧ p_RM_isInSet tX k a x zr ) (fun u t => va_P (dC, dI) ig_cl0 ((fun (u : Unit) => [(o0, .inr (ciRM, [.int th, .ref ra, .int si, .ref rx, .ref rf, .ref rt, .ref rb, .ref rl, .int ru, .ref rp, .ref ru_, .ref rv, .int na, .int nx, .int so, .ref rr, .ref rs, .ref rg, .ref rh, .int pa, .ref rz, .ref ry, .int bz, .int de, .int dp, .int io])), (rx, .inl (cI, 1000, .inl tX))]) u) t.heap ∧ va_D (va_A [(o0, .inr (ciRM, [.int th, .ref ra, .int si, .ref rx, .ref rf, .ref rt, .ref rb, .ref rl, .int ru, .ref rp, .ref ru_, .ref rv, .int na, .int nx, .int so, .ref rr, .ref rs, .ref rg, .ref rh, .int pa, .ref rz, .ref ry, .int bz, .int de, .int dp, .int io])), (rx, .inl (cI, 1000, .inl tX))] sz) ((fun (u : Unit) => [(o0, .inr (ciRM, [.int th, .ref ra, .int si, .ref rx, .ref rf, .ref rt, .ref rb, .ref rl, .int ru, .ref rp, .ref ru_, .ref rv, .int na, .int nx, .int so, .ref rr, .ref rs, .ref rg, .ref rh, .int pa, .ref rz, .ref ry, .int bz, .int de, .int dp, .int io])), (rx, .inl (cI, 1000, .inl tX))]) u)) (va_A [(o0, .inr (ciRM, [.int th, .ref ra, .int si, .ref rx, .ref rf, .ref rt, .ref rb, .ref rl, .int ru, .ref rp, .ref ru_, .ref rv, .int na, .int nx, .int so, .ref rr, .ref rs, .ref rg, .ref rh, .int pa, .ref rz, .ref ry, .int bz, .int de, .int dp, .int io])), (rx, .inl (cI, 1000, .inl tX))] sz)) 0 0 (va_A [(o0, .inr (ciRM, [.int th, .ref ra, .int si, .ref rx, .ref rf, .ref rt, .ref rb, .ref rl, .int ru, .ref rp, .ref ru_, .ref rv, .int na, .int nx, .int so, .ref rr, .ref rs, .ref rg, .ref rh, .int pa, .ref rz, .ref ry, .int bz, .int de, .int dp, .int io])), (rx, .inl (cI, 1000, .inl tX))] sz) := by
  refine ig_metI (fun (r : Int32) (u : Unit) => ∃ zr : Bool, r = bI zr ∧ p_RM_isInSet tX k a x zr ) (fun (u : Unit) => [(o0, .inr (ciRM, [.int th, .ref ra, .int si, .ref rx, .ref rf, .ref rt, .ref rb, .ref rl, .int ru, .ref rp, .ref ru_, .ref rv, .int na, .int nx, .int so, .ref rr, .ref rs, .ref rg, .ref rh, .int pa, .ref rz, .ref ry, .int bz, .int de, .int dp, .int io])), (rx, .inl (cI, 1000, .inl tX))]) (by decide) rfl (Nat.le_of_ble_eq_true rfl) rfl (by rintro r u ⟨b, rfl, -⟩; exact bI_ret b) ?_
  intro zp ze zs zm zargs zbelow zmeth zc zA zQ hx hb hml hown hts hK hN hA hret
  obtain ⟨K29, hK29⟩ : ∃ K : Nat → Bool → Bool → Bool → Prop, K = fun (b : Nat) (tu : Bool) (fi : Bool) (fo : Bool) => ig_W zp l ze ({ frames := 1, cells := 0, slots := 0, locals := 22 }) zs zm zargs zbelow zmeth zc (dC, dI) ig_cl0 zA zs.heap 10 0 0 zQ 29 [(0, .ref o0), (2, .int (nI a)), (3, .int x), (4, .int (nI b)), (5, .int (bI tu)), (6, .int (bI fi)), (7, .int (bI fo))] [] [(o0, .inr (ciRM, [.int th, .ref ra, .int si, .ref rx, .ref rf, .ref rt, .ref rb, .ref rl, .int ru, .ref rp, .ref ru_, .ref rv, .int na, .int nx, .int so, .ref rr, .ref rs, .ref rg, .ref rh, .int pa, .ref rz, .ref ry, .int bz, .int de, .int dp, .int io])), (rx, .inl (cI, 1000, .inl tX))] := ⟨_, rfl⟩
  have j21 : ∀ (b : Nat) (s0 : Bool), v_RM_isInSet_21 tX k a x K29 (p_RM_isInSet tX k a x) b s0 → ig_W zp l ze ({ frames := 1, cells := 0, slots := 0, locals := 22 }) zs zm zargs zbelow zmeth zc (dC, dI) ig_cl0 zA zs.heap 10 0 0 zQ 21 [(0, .ref o0), (2, .int (nI a)), (3, .int x), (4, .int (nI b))] [.int (bI s0)] [(o0, .inr (ciRM, [.int th, .ref ra, .int si, .ref rx, .ref rf, .ref rt, .ref rb, .ref rl, .int ru, .ref rp, .ref ru_, .ref rv, .int na, .int nx, .int so, .ref rr, .ref rs, .ref rg, .ref rh, .int pa, .ref rz, .ref ry, .int bz, .int de, .int dp, .int io])), (rx, .inl (cI, 1000, .inl tX))] := by
    intro b s0 hv
    unfold v_RM_isInSet_21 at hv
    refine ig_istore (lv' := [(5, .int (bI s0)), (0, .ref o0), (2, .int (nI a)), (3, .int x), (4, .int (nI b))]) hx hb d_RM_isInSet_21 (by decide) rfl ?_
    refine ig_iconst (v := 1) hx hb d_RM_isInSet_23 (by decide) ?_
    refine ig_istore (lv' := [(6, .int 1), (5, .int (bI s0)), (0, .ref o0), (2, .int (nI a)), (3, .int x), (4, .int (nI b))]) hx hb d_RM_isInSet_24 (by decide) rfl ?_
    refine ig_iconst (v := 0) hx hb d_RM_isInSet_26 (by decide) ?_
    refine ig_istore (lv' := [(7, .int 0), (6, .int 1), (5, .int (bI s0)), (0, .ref o0), (2, .int (nI a)), (3, .int x), (4, .int (nI b))]) hx hb d_RM_isInSet_27 (by decide) rfl ?_
    refine ig_lv (lv' := [(0, .ref o0), (2, .int (nI a)), (3, .int x), (4, .int (nI b)), (5, .int (bI s0)), (6, .int 1), (7, .int 0)]) [3, 4, 5, 6, 2, 1, 0] rfl ?_
    rw [hK29] at hv
    exact hv
  have j99 : ∀ (b : Nat) (tu : Bool) (fi : Bool) (fo : Bool) (lo : Int32) (hi : Int32), v_RM_isInSet_99 tX k a x K29 (p_RM_isInSet tX k a x) b tu fi fo lo hi → ig_W zp l ze ({ frames := 1, cells := 0, slots := 0, locals := 22 }) zs zm zargs zbelow zmeth zc (dC, dI) ig_cl0 zA zs.heap 10 0 0 zQ 99 [(0, .ref o0), (2, .int (nI a)), (3, .int x), (4, .int (nI b)), (5, .int (bI tu)), (6, .int (bI fi)), (7, .int (bI fo)), (8, .int lo), (9, .int hi)] [] [(o0, .inr (ciRM, [.int th, .ref ra, .int si, .ref rx, .ref rf, .ref rt, .ref rb, .ref rl, .int ru, .ref rp, .ref ru_, .ref rv, .int na, .int nx, .int so, .ref rr, .ref rs, .ref rg, .ref rh, .int pa, .ref rz, .ref ry, .int bz, .int de, .int dp, .int io])), (rx, .inl (cI, 1000, .inl tX))] := by
    intro b tu fi fo lo hi hv
    unfold v_RM_isInSet_99 at hv
    refine ig_iload hx hb 6 d_RM_isInSet_99 rfl ?_
    refine ig_if_neB (tgt := 116) hx hb fo rfl d_RM_isInSet_101 (by decide) (fun h => ?_) (fun h => ?_)
    · have hv := hv.1 h
      refine ig_iconst (v := 1) hx hb d_RM_isInSet_116 (by decide) ?_
      refine ig_goto (tgt := 121) hx hb d_RM_isInSet_117 (by decide) ?_
      refine ig_istore (lv' := [(7, .int 1), (0, .ref o0), (2, .int (nI a)), (3, .int x), (4, .int (nI b)), (5, .int (bI tu)), (6, .int (bI fi)), (8, .int lo), (9, .int hi)]) hx hb d_RM_isInSet_121 (by decide) rfl ?_
      refine ig_goto (tgt := 29) hx hb d_RM_isInSet_123 (by decide) ?_
      refine ig_lv (lv' := [(0, .ref o0), (2, .int (nI a)), (3, .int x), (4, .int (nI b)), (5, .int (bI tu)), (6, .int (bI fi)), (7, .int 1)]) [1, 2, 3, 4, 5, 6, 0] rfl ?_
      rw [hK29] at hv
      exact hv
    · have hv := hv.2 h
      refine ig_iload_n hx hb 2 d_RM_isInSet_104 rfl rfl ?_
      refine ig_iload hx hb 7 d_RM_isInSet_105 rfl ?_
      refine ig_icmp_lt (tgt := 120) hx hb d_RM_isInSet_107 (by decide) (fun h => ?_) (fun h => ?_)
      · have hv := hv.1 h
        refine ig_iconst (v := 0) hx hb d_RM_isInSet_120 (by decide) ?_
        refine ig_istore (lv' := [(7, .int 0), (0, .ref o0), (2, .int (nI a)), (3, .int x), (4, .int (nI b)), (5, .int (bI tu)), (6, .int (bI fi)), (8, .int lo), (9, .int hi)]) hx hb d_RM_isInSet_121 (by decide) rfl ?_
        refine ig_goto (tgt := 29) hx hb d_RM_isInSet_123 (by decide) ?_
        refine ig_lv (lv' := [(0, .ref o0), (2, .int (nI a)), (3, .int x), (4, .int (nI b)), (5, .int (bI tu)), (6, .int (bI fi)), (7, .int 0)]) [1, 2, 3, 4, 5, 6, 0] rfl ?_
        rw [hK29] at hv
        exact hv
      · have hv := hv.2 h
        refine ig_iload_n hx hb 2 d_RM_isInSet_110 rfl rfl ?_
        refine ig_iload hx hb 8 d_RM_isInSet_111 rfl ?_
        refine ig_icmp_gt (tgt := 120) hx hb d_RM_isInSet_113 (by decide) (fun h => ?_) (fun h => ?_)
        · have hv := hv.1 h
          refine ig_iconst (v := 0) hx hb d_RM_isInSet_120 (by decide) ?_
          refine ig_istore (lv' := [(7, .int 0), (0, .ref o0), (2, .int (nI a)), (3, .int x), (4, .int (nI b)), (5, .int (bI tu)), (6, .int (bI fi)), (8, .int lo), (9, .int hi)]) hx hb d_RM_isInSet_121 (by decide) rfl ?_
          refine ig_goto (tgt := 29) hx hb d_RM_isInSet_123 (by decide) ?_
          refine ig_lv (lv' := [(0, .ref o0), (2, .int (nI a)), (3, .int x), (4, .int (nI b)), (5, .int (bI tu)), (6, .int (bI fi)), (7, .int 0)]) [1, 2, 3, 4, 5, 6, 0] rfl ?_
          rw [hK29] at hv
          exact hv
        · have hv := hv.2 h
          refine ig_iconst (v := 1) hx hb d_RM_isInSet_116 (by decide) ?_
          refine ig_goto (tgt := 121) hx hb d_RM_isInSet_117 (by decide) ?_
          refine ig_istore (lv' := [(7, .int 1), (0, .ref o0), (2, .int (nI a)), (3, .int x), (4, .int (nI b)), (5, .int (bI tu)), (6, .int (bI fi)), (8, .int lo), (9, .int hi)]) hx hb d_RM_isInSet_121 (by decide) rfl ?_
          refine ig_goto (tgt := 29) hx hb d_RM_isInSet_123 (by decide) ?_
          refine ig_lv (lv' := [(0, .ref o0), (2, .int (nI a)), (3, .int x), (4, .int (nI b)), (5, .int (bI tu)), (6, .int (bI fi)), (7, .int 1)]) [1, 2, 3, 4, 5, 6, 0] rfl ?_
          rw [hK29] at hv
          exact hv
  have j46 : ∀ (b : Nat) (tu : Bool) (fo : Bool), v_RM_isInSet_46 tX k a x K29 (p_RM_isInSet tX k a x) b tu fo → ig_W zp l ze ({ frames := 1, cells := 0, slots := 0, locals := 22 }) zs zm zargs zbelow zmeth zc (dC, dI) ig_cl0 zA zs.heap 10 0 0 zQ 46 [(0, .ref o0), (2, .int (nI a)), (3, .int x), (4, .int (nI b)), (5, .int (bI tu)), (7, .int (bI fo))] [] [(o0, .inr (ciRM, [.int th, .ref ra, .int si, .ref rx, .ref rf, .ref rt, .ref rb, .ref rl, .int ru, .ref rp, .ref ru_, .ref rv, .int na, .int nx, .int so, .ref rr, .ref rs, .ref rg, .ref rh, .int pa, .ref rz, .ref ry, .int bz, .int de, .int dp, .int io])), (rx, .inl (cI, 1000, .inl tX))] := by
    intro b tu fo hv
    unfold v_RM_isInSet_46 at hv
    refine ig_aload_n hx hb 0 d_RM_isInSet_46 rfl rfl ?_
    refine ig_iload hx hb 3 d_RM_isInSet_47 rfl ?_
    obtain ⟨hc, hv⟩ := hv
    refine ig_cVi (As := [.int (nI b)]) (rest := []) (wr := []) (ws' := fun u => [(o0, .inr (ciRM, [.int th, .ref ra, .int si, .ref rx, .ref rf, .ref rt, .ref rb, .ref rl, .int ru, .ref rp, .ref ru_, .ref rv, .int na, .int nx, .int so, .ref rr, .ref rs, .ref rg, .ref rh, .int pa, .ref rz, .ref ry, .int bz, .int de, .int dp, .int io])), (rx, .inl (cI, 1000, .inl tX))]) hx hb hml hown hts hK hN hA (fun sz => c_RM_itemByte l dC dI cC cI cZ cL o0 ra rx rf rt rb rl rp ru_ rv rr rs rg rh rz ry th si ru na nx so pa bz de dp io tX b sz hc) ⟨callB_of 1 hts g_RM_itemByte rfl rfl rfl (hts _ kw_0_5) (hts _ kw_2_101) (by decide +kernel) (by decide), (hts _ kw_2_103), (hts _ ks_RM_itemByte)⟩ rfl rfl (Nat.le_of_ble_eq_true rfl) d_RM_isInSet_49 (by decide) 0 rfl rfl [0, 1] [] [0, 1] rfl rfl (by decide) (by decide) (by decide) (fun _ => rfl) (fun _ => rfl) (fun r u hr => ?_)
    unfold p_RM_itemByte at hr
    subst hr
    refine ig_istore (lv' := [(8, .int (sp_byte tX b)), (0, .ref o0), (2, .int (nI a)), (3, .int x), (4, .int (nI b)), (5, .int (bI tu)), (7, .int (bI fo))]) hx hb d_RM_isInSet_52 (by decide) rfl ?_
    refine ig_iload hx hb 0 d_RM_isInSet_54 rfl ?_
    refine ig_istore (lv' := [(9, .int (sp_byte tX b)), (8, .int (sp_byte tX b)), (0, .ref o0), (2, .int (nI a)), (3, .int x), (4, .int (nI b)), (5, .int (bI tu)), (7, .int (bI fo))]) hx hb d_RM_isInSet_56 (by decide) rfl ?_
    refine ig_aload_n hx hb 2 d_RM_isInSet_58 rfl rfl ?_
    refine ig_iload hx hb 5 d_RM_isInSet_59 rfl ?_
    obtain ⟨hc, hv⟩ := hv
    refine ig_cVi (As := [.int (nI b)]) (rest := []) (wr := []) (ws' := fun u => [(o0, .inr (ciRM, [.int th, .ref ra, .int si, .ref rx, .ref rf, .ref rt, .ref rb, .ref rl, .int ru, .ref rp, .ref ru_, .ref rv, .int na, .int nx, .int so, .ref rr, .ref rs, .ref rg, .ref rh, .int pa, .ref rz, .ref ry, .int bz, .int de, .int dp, .int io])), (rx, .inl (cI, 1000, .inl tX))]) hx hb hml hown hts hK hN hA (fun sz => c_RM_itemEnd l dC dI cC cI cZ cL o0 ra rx rf rt rb rl rp ru_ rv rr rs rg rh rz ry th si ru na nx so pa bz de dp io tX b sz hc) ⟨callB_of 1 hts g_RM_itemEnd rfl rfl rfl (hts _ kw_0_5) (hts _ kw_2_45) (by decide +kernel) (by decide), (hts _ kw_2_47), (hts _ ks_RM_itemEnd)⟩ rfl rfl (Nat.le_of_ble_eq_true rfl) d_RM_isInSet_61 (by decide) 0 rfl rfl [0, 1] [] [0, 1] rfl rfl (by decide) (by decide) (by decide) (fun _ => rfl) (fun _ => rfl) (fun r u hr => ?_)
    obtain ⟨rr, rfl, hr⟩ := hr
    unfold p_RM_itemEnd at hr
    subst hr
    refine ig_istore (lv' := [(4, .int (nI (sp_tok tX b))), (9, .int (sp_byte tX b)), (8, .int (sp_byte tX b)), (0, .ref o0), (2, .int (nI a)), (3, .int x), (5, .int (bI tu)), (7, .int (bI fo))]) hx hb d_RM_isInSet_64 (by decide) rfl ?_
    refine ig_iconst (v := 0) hx hb d_RM_isInSet_66 (by decide) ?_
    refine ig_istore (lv' := [(6, .int 0), (4, .int (nI (sp_tok tX b))), (9, .int (sp_byte tX b)), (8, .int (sp_byte tX b)), (0, .ref o0), (2, .int (nI a)), (3, .int x), (5, .int (bI tu)), (7, .int (bI fo))]) hx hb d_RM_isInSet_67 (by decide) rfl ?_
    refine ig_aload_n hx hb 4 d_RM_isInSet_69 rfl rfl ?_
    refine ig_iload hx hb 1 d_RM_isInSet_70 rfl ?_
    refine ig_iload_n hx hb 5 d_RM_isInSet_72 rfl rfl ?_
    obtain ⟨hc, hv⟩ := hv
    refine ig_cVi (As := [.int (nI (sp_tok tX b)), .int (nI a)]) (rest := []) (wr := []) (ws' := fun u => [(o0, .inr (ciRM, [.int th, .ref ra, .int si, .ref rx, .ref rf, .ref rt, .ref rb, .ref rl, .int ru, .ref rp, .ref ru_, .ref rv, .int na, .int nx, .int so, .ref rr, .ref rs, .ref rg, .ref rh, .int pa, .ref rz, .ref ry, .int bz, .int de, .int dp, .int io])), (rx, .inl (cI, 1000, .inl tX))]) hx hb hml hown hts hK hN hA (fun sz => c_RM_isRow l dC dI cC cI cZ cL o0 ra rx rf rt rb rl rp ru_ rv rr rs rg rh rz ry th si ru na nx so pa bz de dp io tX (sp_tok tX b) a sz hc) ⟨callB_of 2 hts g_RM_isRow rfl rfl rfl (hts _ kw_0_5) (hts _ kw_2_49) (by decide +kernel) (by decide), (hts _ kw_2_51), (hts _ ks_RM_isRow)⟩ rfl rfl (Nat.le_of_ble_eq_true rfl) d_RM_isInSet_73 (by decide) 0 rfl rfl [0, 1] [] [0, 1] rfl rfl (by decide) (by decide) (by decide) (fun _ => rfl) (fun _ => rfl) (fun r u hr => ?_)
    obtain ⟨rr, rfl, hr⟩ := hr
    unfold p_RM_isRow at hr
    subst hr
    refine ig_if_eqB (tgt := 99) hx hb (sp_row tX a (sp_tok tX b)) rfl d_RM_isInSet_76 (by decide) (fun h => ?_) (fun h => ?_)
    · have hv := hv.1 h
      refine ig_lv (lv' := [(0, .ref o0), (2, .int (nI a)), (3, .int x), (4, .int (nI (sp_tok tX b))), (5, .int (bI tu)), (6, .int 0), (7, .int (bI fo)), (8, .int (sp_byte tX b)), (9, .int (sp_byte tX b))]) [4, 5, 6, 1, 7, 0, 8, 3, 2] rfl ?_
      exact j99 _ _ _ _ _ _ hv
    · have hv := hv.2 h
      refine ig_aload_n hx hb 4 d_RM_isInSet_79 rfl rfl ?_
      refine ig_iload hx hb 1 d_RM_isInSet_80 rfl ?_
      refine ig_iconst (v := 1) hx hb d_RM_isInSet_82 (by decide) ?_
      refine ig_iaddN hx hb (sp_tok tX b) 1 rfl rfl d_RM_isInSet_83 ?_
      obtain ⟨hc, hv⟩ := hv
      refine ig_cVi (As := [.int (nI ((sp_tok tX b) + 1))]) (rest := []) (wr := []) (ws' := fun u => [(o0, .inr (ciRM, [.int th, .ref ra, .int si, .ref rx, .ref rf, .ref rt, .ref rb, .ref rl, .int ru, .ref rp, .ref ru_, .ref rv, .int na, .int nx, .int so, .ref rr, .ref rs, .ref rg, .ref rh, .int pa, .ref rz, .ref ry, .int bz, .int de, .int dp, .int io])), (rx, .inl (cI, 1000, .inl tX))]) hx hb hml hown hts hK hN hA (fun sz => c_RM_itemByte l dC dI cC cI cZ cL o0 ra rx rf rt rb rl rp ru_ rv rr rs rg rh rz ry th si ru na nx so pa bz de dp io tX ((sp_tok tX b) + 1) sz hc) ⟨callB_of 1 hts g_RM_itemByte rfl rfl rfl (hts _ kw_0_5) (hts _ kw_2_101) (by decide +kernel) (by decide), (hts _ kw_2_103), (hts _ ks_RM_itemByte)⟩ rfl rfl (Nat.le_of_ble_eq_true rfl) d_RM_isInSet_84 (by decide) 0 rfl rfl [0, 1] [] [0, 1] rfl rfl (by decide) (by decide) (by decide) (fun _ => rfl) (fun _ => rfl) (fun r u hr => ?_)
      unfold p_RM_itemByte at hr
      subst hr
      refine ig_istore (lv' := [(9, .int (sp_byte tX ((sp_tok tX b) + 1))), (6, .int 0), (4, .int (nI (sp_tok tX b))), (8, .int (sp_byte tX b)), (0, .ref o0), (2, .int (nI a)), (3, .int x), (5, .int (bI tu)), (7, .int (bI fo))]) hx hb d_RM_isInSet_87 (by decide) rfl ?_
      refine ig_aload_n hx hb 4 d_RM_isInSet_89 rfl rfl ?_
      refine ig_iload hx hb 2 d_RM_isInSet_90 rfl ?_
      refine ig_iconst (v := 1) hx hb d_RM_isInSet_92 (by decide) ?_
      refine ig_iaddN hx hb (sp_tok tX b) 1 rfl rfl d_RM_isInSet_93 ?_
      obtain ⟨hc, hv⟩ := hv
      refine ig_cVi (As := [.int (nI ((sp_tok tX b) + 1))]) (rest := []) (wr := []) (ws' := fun u => [(o0, .inr (ciRM, [.int th, .ref ra, .int si, .ref rx, .ref rf, .ref rt, .ref rb, .ref rl, .int ru, .ref rp, .ref ru_, .ref rv, .int na, .int nx, .int so, .ref rr, .ref rs, .ref rg, .ref rh, .int pa, .ref rz, .ref ry, .int bz, .int de, .int dp, .int io])), (rx, .inl (cI, 1000, .inl tX))]) hx hb hml hown hts hK hN hA (fun sz => c_RM_itemEnd l dC dI cC cI cZ cL o0 ra rx rf rt rb rl rp ru_ rv rr rs rg rh rz ry th si ru na nx so pa bz de dp io tX ((sp_tok tX b) + 1) sz hc) ⟨callB_of 1 hts g_RM_itemEnd rfl rfl rfl (hts _ kw_0_5) (hts _ kw_2_45) (by decide +kernel) (by decide), (hts _ kw_2_47), (hts _ ks_RM_itemEnd)⟩ rfl rfl (Nat.le_of_ble_eq_true rfl) d_RM_isInSet_94 (by decide) 0 rfl rfl [0, 1] [] [0, 1] rfl rfl (by decide) (by decide) (by decide) (fun _ => rfl) (fun _ => rfl) (fun r u hr => ?_)
      obtain ⟨rr, rfl, hr⟩ := hr
      unfold p_RM_itemEnd at hr
      subst hr
      refine ig_istore (lv' := [(4, .int (nI (sp_tok tX ((sp_tok tX b) + 1)))), (9, .int (sp_byte tX ((sp_tok tX b) + 1))), (6, .int 0), (8, .int (sp_byte tX b)), (0, .ref o0), (2, .int (nI a)), (3, .int x), (5, .int (bI tu)), (7, .int (bI fo))]) hx hb d_RM_isInSet_97 (by decide) rfl ?_
      refine ig_lv (lv' := [(0, .ref o0), (2, .int (nI a)), (3, .int x), (4, .int (nI (sp_tok tX ((sp_tok tX b) + 1)))), (5, .int (bI tu)), (6, .int 0), (7, .int (bI fo)), (8, .int (sp_byte tX b)), (9, .int (sp_byte tX ((sp_tok tX b) + 1)))]) [4, 5, 6, 0, 7, 2, 8, 3, 1] rfl ?_
      exact j99 _ _ _ _ _ _ hv
  have k29 : ∀ (b : Nat) (tu : Bool) (fi : Bool) (fo : Bool), v_RM_isInSet_29 tX k a x K29 (p_RM_isInSet tX k a x) b tu fi fo → K29 b tu fi fo := by
    intro b tu fi fo hv
    unfold v_RM_isInSet_29 at hv
    rw [hK29]
    show ig_W zp l ze ({ frames := 1, cells := 0, slots := 0, locals := 22 }) zs zm zargs zbelow zmeth zc (dC, dI) ig_cl0 zA zs.heap 10 0 0 zQ 29 [(0, .ref o0), (2, .int (nI a)), (3, .int x), (4, .int (nI b)), (5, .int (bI tu)), (6, .int (bI fi)), (7, .int (bI fo))] [] [(o0, .inr (ciRM, [.int th, .ref ra, .int si, .ref rx, .ref rf, .ref rt, .ref rb, .ref rl, .int ru, .ref rp, .ref ru_, .ref rv, .int na, .int nx, .int so, .ref rr, .ref rs, .ref rg, .ref rh, .int pa, .ref rz, .ref ry, .int bz, .int de, .int dp, .int io])), (rx, .inl (cI, 1000, .inl tX))]
    refine ig_iload hx hb 5 d_RM_isInSet_29 rfl ?_
    refine ig_if_neB (tgt := 46) hx hb fi rfl d_RM_isInSet_31 (by decide) (fun h => ?_) (fun h => ?_)
    · have hv := hv.1 h
      refine ig_lv (lv' := [(0, .ref o0), (2, .int (nI a)), (3, .int x), (4, .int (nI b)), (5, .int (bI tu)), (7, .int (bI fo))]) [0, 1, 2, 3, 4, 6] rfl ?_
      exact j46 _ _ _ hv
    · have hv := hv.2 h
      refine ig_aload_n hx hb 0 d_RM_isInSet_34 rfl rfl ?_
      refine ig_get hx hb hts in_RM hown hK 0 rfl rfl 3 (by decide) (hts _ kw_1_148) (fun _ h => h) rfl d_RM_isInSet_35 ?_
      refine ig_iload hx hb 3 d_RM_isInSet_38 rfl ?_
      obtain ⟨hc, hv⟩ := hv
      refine ig_iald (x := (tX b)) hx hb hK 1 1 rfl rfl b rfl hc (by decide) rfl d_RM_isInSet_40 ?_
      refine ig_bipush (v := 93) hx hb d_RM_isInSet_41 (by decide) ?_
      refine ig_icmp_eq (tgt := 126) hx hb d_RM_isInSet_43 (by decide) (fun h => ?_) (fun h => ?_)
      · have hv := hv.1 h
        refine ig_iload hx hb 6 d_RM_isInSet_126 rfl ?_
        refine ig_iload hx hb 4 d_RM_isInSet_128 rfl ?_
        refine ig_icmp_eqB (tgt := 137) hx hb fo tu rfl rfl d_RM_isInSet_130 (by decide) (fun h => ?_) (fun h => ?_)
        · have hv := hv.1 h
          refine ig_iconst (v := 0) hx hb d_RM_isInSet_137 (by decide) ?_
          exact hret 138 _ 0 () d_RM_isInSet_138 ⟨false, rfl, hv⟩
        · have hv := hv.2 h
          refine ig_iconst (v := 1) hx hb d_RM_isInSet_133 (by decide) ?_
          refine ig_goto (tgt := 138) hx hb d_RM_isInSet_134 (by decide) ?_
          exact hret 138 _ 1 () d_RM_isInSet_138 ⟨true, rfl, hv⟩
      · have hv := hv.2 h
        refine ig_lv (lv' := [(0, .ref o0), (2, .int (nI a)), (3, .int x), (4, .int (nI b)), (5, .int (bI tu)), (7, .int (bI fo))]) [0, 1, 2, 3, 4, 6] rfl ?_
        exact j46 _ _ _ hv
  have hv := t_RM_isInSet tX k a x hr K29 k29
  unfold v_RM_isInSet at hv
  refine ig_aload_n hx hb 0 d_RM_isInSet_0 rfl rfl ?_
  refine ig_iload_n hx hb 1 d_RM_isInSet_1 rfl rfl ?_
  refine ig_iload_n hx hb 2 d_RM_isInSet_2 rfl rfl ?_
  obtain ⟨hc, hv⟩ := hv
  refine ig_cVi (As := [.int (nI k), .int (nI a)]) (rest := []) (wr := []) (ws' := fun u => [(o0, .inr (ciRM, [.int th, .ref ra, .int si, .ref rx, .ref rf, .ref rt, .ref rb, .ref rl, .int ru, .ref rp, .ref ru_, .ref rv, .int na, .int nx, .int so, .ref rr, .ref rs, .ref rg, .ref rh, .int pa, .ref rz, .ref ry, .int bz, .int de, .int dp, .int io])), (rx, .inl (cI, 1000, .inl tX))]) hx hb hml hown hts hK hN hA (fun sz => c_RM_itemsFrom l dC dI cC cI cZ cL o0 ra rx rf rt rb rl rp ru_ rv rr rs rg rh rz ry th si ru na nx so pa bz de dp io tX k a sz hc) ⟨callB_of 2 hts g_RM_itemsFrom rfl rfl rfl (hts _ kw_0_5) (hts _ kw_2_41) (by decide +kernel) (by decide), (hts _ kw_2_43), (hts _ ks_RM_itemsFrom)⟩ rfl rfl (Nat.le_of_ble_eq_true rfl) d_RM_isInSet_3 (by decide) 0 rfl rfl [0, 1] [] [0, 1] rfl rfl (by decide) (by decide) (by decide) (fun _ => rfl) (fun _ => rfl) (fun r u hr => ?_)
  obtain ⟨rr, rfl, hr⟩ := hr
  unfold p_RM_itemsFrom at hr
  subst hr
  refine ig_istore (lv' := [(4, .int (nI (sp_sf tX a k))), (0, .ref o0), (1, .int (nI k)), (2, .int (nI a)), (3, .int x)]) hx hb d_RM_isInSet_6 (by decide) rfl ?_
  refine ig_iload hx hb 0 d_RM_isInSet_8 rfl ?_
  refine ig_iload_n hx hb 2 d_RM_isInSet_10 rfl rfl ?_
  refine ig_iconst (v := 2) hx hb d_RM_isInSet_11 (by decide) ?_
  refine ig_iaddN hx hb k 2 rfl rfl d_RM_isInSet_12 ?_
  obtain ⟨h1, hv⟩ := hv
  obtain ⟨h2, hv⟩ := hv
  refine ig_icmp_neN (tgt := 20) hx hb (sp_sf tX a k) (k + 2) rfl rfl d_RM_isInSet_13 (by decide) h1 h2 (fun h => ?_) (fun h => ?_)
  · have hv := hv.1 h
    refine ig_iconst (v := 0) hx hb d_RM_isInSet_20 (by decide) ?_
    refine ig_lv (lv' := [(0, .ref o0), (2, .int (nI a)), (3, .int x), (4, .int (nI (sp_sf tX a k)))]) [1, 3, 4, 0] rfl ?_
    exact j21 _ _ hv
  · have hv := hv.2 h
    refine ig_iconst (v := 1) hx hb d_RM_isInSet_16 (by decide) ?_
    refine ig_goto (tgt := 21) hx hb d_RM_isInSet_17 (by decide) ?_
    refine ig_lv (lv' := [(0, .ref o0), (2, .int (nI a)), (3, .int x), (4, .int (nI (sp_sf tX a k)))]) [1, 3, 4, 0] rfl ?_
    exact j21 _ _ hv
theorem d_RM_look_0 : decode b_RM_look 0 = .ok (.aload_n 0, 1) := by decide +kernel
theorem d_RM_look_1 : decode b_RM_look 1 = .ok (.getfield 13, 3) := by decide +kernel
theorem d_RM_look_4 : decode b_RM_look 4 = .ok (.iload_n 1, 1) := by decide +kernel
theorem d_RM_look_5 : decode b_RM_look 5 = .ok (.iaload, 1) := by decide +kernel
theorem d_RM_look_6 : decode b_RM_look 6 = .ok (.istore_n 3, 1) := by decide +kernel
theorem d_RM_look_7 : decode b_RM_look 7 = .ok (.aload_n 0, 1) := by decide +kernel
theorem d_RM_look_8 : decode b_RM_look 8 = .ok (.iload_n 1, 1) := by decide +kernel
theorem d_RM_look_9 : decode b_RM_look 9 = .ok (.iconst 1, 1) := by decide +kernel
theorem d_RM_look_10 : decode b_RM_look 10 = .ok (.iadd, 1) := by decide +kernel
theorem d_RM_look_11 : decode b_RM_look 11 = .ok (.putfield 65, 3) := by decide +kernel
theorem d_RM_look_14 : decode b_RM_look 14 = .ok (.aload_n 0, 1) := by decide +kernel
theorem d_RM_look_15 : decode b_RM_look 15 = .ok (.iload_n 3, 1) := by decide +kernel
theorem d_RM_look_16 : decode b_RM_look 16 = .ok (.bipush 63, 2) := by decide +kernel
theorem d_RM_look_18 : decode b_RM_look 18 = .ok (.if_icmp .ne 7, 3) := by decide +kernel
theorem d_RM_look_21 : decode b_RM_look 21 = .ok (.iconst 1, 1) := by decide +kernel
theorem d_RM_look_22 : decode b_RM_look 22 = .ok (.goto 14, 3) := by decide +kernel
theorem d_RM_look_25 : decode b_RM_look 25 = .ok (.iload_n 3, 1) := by decide +kernel
theorem d_RM_look_26 : decode b_RM_look 26 = .ok (.bipush 42, 2) := by decide +kernel
theorem d_RM_look_28 : decode b_RM_look 28 = .ok (.if_icmp .ne 7, 3) := by decide +kernel
theorem d_RM_look_31 : decode b_RM_look 31 = .ok (.iconst 2, 1) := by decide +kernel
theorem d_RM_look_32 : decode b_RM_look 32 = .ok (.goto 4, 3) := by decide +kernel
theorem d_RM_look_35 : decode b_RM_look 35 = .ok (.iconst 0, 1) := by decide +kernel
theorem d_RM_look_36 : decode b_RM_look 36 = .ok (.putfield 68, 3) := by decide +kernel
theorem d_RM_look_39 : decode b_RM_look 39 = .ok (.iload_n 3, 1) := by decide +kernel
theorem d_RM_look_40 : decode b_RM_look 40 = .ok (.bipush 92, 2) := by decide +kernel
theorem d_RM_look_42 : decode b_RM_look 42 = .ok (.if_icmp .ne 29, 3) := by decide +kernel
theorem d_RM_look_45 : decode b_RM_look 45 = .ok (.aload_n 0, 1) := by decide +kernel
theorem d_RM_look_46 : decode b_RM_look 46 = .ok (.iload_n 1, 1) := by decide +kernel
theorem d_RM_look_47 : decode b_RM_look 47 = .ok (.iconst 1, 1) := by decide +kernel
theorem d_RM_look_48 : decode b_RM_look 48 = .ok (.iadd, 1) := by decide +kernel
theorem d_RM_look_49 : decode b_RM_look 49 = .ok (.iload_n 2, 1) := by decide +kernel
theorem d_RM_look_50 : decode b_RM_look 50 = .ok (.if_icmp .ge 7, 3) := by decide +kernel
theorem d_RM_look_53 : decode b_RM_look 53 = .ok (.iconst 0, 1) := by decide +kernel
theorem d_RM_look_54 : decode b_RM_look 54 = .ok (.goto 4, 3) := by decide +kernel
theorem d_RM_look_57 : decode b_RM_look 57 = .ok (.iconst 4, 1) := by decide +kernel
theorem d_RM_look_58 : decode b_RM_look 58 = .ok (.putfield 68, 3) := by decide +kernel
theorem d_RM_look_61 : decode b_RM_look 61 = .ok (.aload_n 0, 1) := by decide +kernel
theorem d_RM_look_62 : decode b_RM_look 62 = .ok (.iload_n 1, 1) := by decide +kernel
theorem d_RM_look_63 : decode b_RM_look 63 = .ok (.iconst 2, 1) := by decide +kernel
theorem d_RM_look_64 : decode b_RM_look 64 = .ok (.iadd, 1) := by decide +kernel
theorem d_RM_look_65 : decode b_RM_look 65 = .ok (.putfield 65, 3) := by decide +kernel
theorem d_RM_look_68 : decode b_RM_look 68 = .ok (.goto 36, 3) := by decide +kernel
theorem d_RM_look_71 : decode b_RM_look 71 = .ok (.iload_n 3, 1) := by decide +kernel
theorem d_RM_look_72 : decode b_RM_look 72 = .ok (.bipush 91, 2) := by decide +kernel
theorem d_RM_look_74 : decode b_RM_look 74 = .ok (.if_icmp .ne 30, 3) := by decide +kernel
theorem d_RM_look_77 : decode b_RM_look 77 = .ok (.aload_n 0, 1) := by decide +kernel
theorem d_RM_look_78 : decode b_RM_look 78 = .ok (.aload_n 0, 1) := by decide +kernel
theorem d_RM_look_79 : decode b_RM_look 79 = .ok (.iload_n 1, 1) := by decide +kernel
theorem d_RM_look_80 : decode b_RM_look 80 = .ok (.iload_n 2, 1) := by decide +kernel
theorem d_RM_look_81 : decode b_RM_look 81 = .ok (.invokevirtual 71, 3) := by decide +kernel
theorem d_RM_look_84 : decode b_RM_look 84 = .ok (.putfield 65, 3) := by decide +kernel
theorem d_RM_look_87 : decode b_RM_look 87 = .ok (.aload_n 0, 1) := by decide +kernel
theorem d_RM_look_88 : decode b_RM_look 88 = .ok (.aload_n 0, 1) := by decide +kernel
theorem d_RM_look_89 : decode b_RM_look 89 = .ok (.getfield 65, 3) := by decide +kernel
theorem d_RM_look_92 : decode b_RM_look 92 = .ok (.iload_n 2, 1) := by decide +kernel
theorem d_RM_look_93 : decode b_RM_look 93 = .ok (.if_icmp .le 7, 3) := by decide +kernel
theorem d_RM_look_96 : decode b_RM_look 96 = .ok (.iconst 4, 1) := by decide +kernel
theorem d_RM_look_97 : decode b_RM_look 97 = .ok (.goto 4, 3) := by decide +kernel
theorem d_RM_look_100 : decode b_RM_look 100 = .ok (.iconst 3, 1) := by decide +kernel
theorem d_RM_look_101 : decode b_RM_look 101 = .ok (.putfield 68, 3) := by decide +kernel
theorem d_RM_look_104 : decode b_RM_look 104 = .ok (.return_, 1) := by decide +kernel
abbrev w_RM_look : List Cond := Cond.code y_RM_look b_RM_look 4 none :: ig_T
theorem g_RM_look : GoodIn ig_T w_RM_look := ig_T_good (ig_T_mem (List.mem_append_right _ (List.mem_append_right _ (List.mem_of_getElem? (i := 36) rfl))) rfl)
set_option maxHeartbeats 4000000 in
set_option maxRecDepth 100000 in
theorem c_RM_look (l : Launch) (dC : Nat → ClassId) (dI : Nat → Nat → Nat) (cC cI cZ cL : ClassId) (o0 ra rx rf rt rb rl rp ru_ rv rr rs rg rh rz ry : Nat) (th : Int32) (si : Int32) (ru : Int32) (na : Int32) (pa : Int32) (bz : Int32) (de : Int32) (dp : Int32) (io : Int32) (nx : Nat) (so : Nat) (tX : Nat → Int32) (k : Nat) (a : Nat) (sz : Nat) (hr : r_RM_look nx so tX k a) : Met l y_RM_look w_RM_look ({ frames := 2, cells := 0, slots := 0, locals := 46 }) (ig_Pc (dC, dI) ig_cl0 [(cC, .char), (cI, .int), (cZ, .boolean), (cL, .long)] [.ref o0, .int (nI k), .int (nI a)] [(o0, .inr (ciRM, [.int th, .ref ra, .int si, .ref rx, .ref rf, .ref rt, .ref rb, .ref rl, .int ru, .ref rp, .ref ru_, .ref rv, .int na, .int (nI nx), .int (nI so), .ref rr, .ref rs, .ref rg, .ref rh, .int pa, .ref rz, .ref ry, .int bz, .int de, .int dp, .int io])), (rx, .inl (cI, 1000, .inl tX))] sz) (va_Qv (fun (u : Nat × Nat) => p_RM_look nx so tX k a u.1 u.2) (fun u t => va_P (dC, dI) ig_cl0 ((fun (u : Nat × Nat) => [(o0, .inr (ciRM, [.int th, .ref ra, .int si, .ref rx, .ref rf, .ref rt, .ref rb, .ref rl, .int ru, .ref rp, .ref ru_, .ref rv, .int na, .int (nI u.1), .int (nI u.2), .ref rr, .ref rs, .ref rg, .ref rh, .int pa, .ref rz, .ref ry, .int bz, .int de, .int dp, .int io])), (rx, .inl (cI, 1000, .inl tX))]) u) t.heap ∧ va_D (va_A [(o0, .inr (ciRM, [.int th, .ref ra, .int si, .ref rx, .ref rf, .ref rt, .ref rb, .ref rl, .int ru, .ref rp, .ref ru_, .ref rv, .int na, .int (nI nx), .int (nI so), .ref rr, .ref rs, .ref rg, .ref rh, .int pa, .ref rz, .ref ry, .int bz, .int de, .int dp, .int io])), (rx, .inl (cI, 1000, .inl tX))] sz) ((fun (u : Nat × Nat) => [(o0, .inr (ciRM, [.int th, .ref ra, .int si, .ref rx, .ref rf, .ref rt, .ref rb, .ref rl, .int ru, .ref rp, .ref ru_, .ref rv, .int na, .int (nI u.1), .int (nI u.2), .ref rr, .ref rs, .ref rg, .ref rh, .int pa, .ref rz, .ref ry, .int bz, .int de, .int dp, .int io])), (rx, .inl (cI, 1000, .inl tX))]) u)) (va_A [(o0, .inr (ciRM, [.int th, .ref ra, .int si, .ref rx, .ref rf, .ref rt, .ref rb, .ref rl, .int ru, .ref rp, .ref ru_, .ref rv, .int na, .int (nI nx), .int (nI so), .ref rr, .ref rs, .ref rg, .ref rh, .int pa, .ref rz, .ref ry, .int bz, .int de, .int dp, .int io])), (rx, .inl (cI, 1000, .inl tX))] sz)) 0 0 (va_A [(o0, .inr (ciRM, [.int th, .ref ra, .int si, .ref rx, .ref rf, .ref rt, .ref rb, .ref rl, .int ru, .ref rp, .ref ru_, .ref rv, .int na, .int (nI nx), .int (nI so), .ref rr, .ref rs, .ref rg, .ref rh, .int pa, .ref rz, .ref ry, .int bz, .int de, .int dp, .int io])), (rx, .inl (cI, 1000, .inl tX))] sz) := by
  refine ig_metV (fun (u : Nat × Nat) => p_RM_look nx so tX k a u.1 u.2) (fun (u : Nat × Nat) => [(o0, .inr (ciRM, [.int th, .ref ra, .int si, .ref rx, .ref rf, .ref rt, .ref rb, .ref rl, .int ru, .ref rp, .ref ru_, .ref rv, .int na, .int (nI u.1), .int (nI u.2), .ref rr, .ref rs, .ref rg, .ref rh, .int pa, .ref rz, .ref ry, .int bz, .int de, .int dp, .int io])), (rx, .inl (cI, 1000, .inl tX))]) (by decide) rfl (Nat.le_of_ble_eq_true rfl) rfl ?_
  intro zp ze zs zm zargs zbelow zmeth zc zA zQ hx hb hml hown hts hK hN hA hret
  have j58 : ∀ (s0 : Nat) (nxc : Nat) (soc : Nat), v_RM_look_58 nx so tX k a (p_RM_look nx so tX k a) s0 nxc soc → ig_W zp l ze ({ frames := 2, cells := 0, slots := 0, locals := 46 }) zs zm zargs zbelow zmeth zc (dC, dI) ig_cl0 zA zs.heap 4 0 0 zQ 58 [(0, .ref o0), (1, .int (nI k))] [.int (nI s0), .ref o0] [(o0, .inr (ciRM, [.int th, .ref ra, .int si, .ref rx, .ref rf, .ref rt, .ref rb, .ref rl, .int ru, .ref rp, .ref ru_, .ref rv, .int na, .int (nI nxc), .int (nI soc), .ref rr, .ref rs, .ref rg, .ref rh, .int pa, .ref rz, .ref ry, .int bz, .int de, .int dp, .int io])), (rx, .inl (cI, 1000, .inl tX))] := by
    intro s0 nxc soc hv
    unfold v_RM_look_58 at hv
    refine ig_put (ty := .int) (v := .int (nI s0)) (ws' := [(o0, .inr (ciRM, [.int th, .ref ra, .int si, .ref rx, .ref rf, .ref rt, .ref rb, .ref rl, .int ru, .ref rp, .ref ru_, .ref rv, .int na, .int (nI nxc), .int (nI s0), .ref rr, .ref rs, .ref rg, .ref rh, .int pa, .ref rz, .ref ry, .int bz, .int de, .int dp, .int io])), (rx, .inl (cI, 1000, .inl tX))]) hx hb hts in_RM t_RM t_RM_ok n_RM hown hK 0 rfl rfl 14 (by decide) (hts _ kw_1_159) (fun _ h => h) rfl (by decide +kernel) rfl rfl (Nat.le_of_ble_eq_true rfl) d_RM_look_58 rfl ?_
    refine ig_aload_n hx hb 0 d_RM_look_61 rfl rfl ?_
    refine ig_iload_n hx hb 1 d_RM_look_62 rfl rfl ?_
    refine ig_iconst (v := 2) hx hb d_RM_look_63 (by decide) ?_
    refine ig_iaddN hx hb k 2 rfl rfl d_RM_look_64 ?_
    refine ig_put (ty := .int) (v := .int (nI (k + 2))) (ws' := [(o0, .inr (ciRM, [.int th, .ref ra, .int si, .ref rx, .ref rf, .ref rt, .ref rb, .ref rl, .int ru, .ref rp, .ref ru_, .ref rv, .int na, .int (nI (k + 2)), .int (nI s0), .ref rr, .ref rs, .ref rg, .ref rh, .int pa, .ref rz, .ref ry, .int bz, .int de, .int dp, .int io])), (rx, .inl (cI, 1000, .inl tX))]) hx hb hts in_RM t_RM t_RM_ok n_RM hown hK 0 rfl rfl 13 (by decide) (hts _ kw_1_158) (fun _ h => h) rfl (by decide +kernel) rfl rfl (Nat.le_of_ble_eq_true rfl) d_RM_look_65 rfl ?_
    refine ig_goto (tgt := 104) hx hb d_RM_look_68 (by decide) ?_
    exact hret 104 _ (k + 2, s0) d_RM_look_104 hv
  have j101 : ∀ (s0 : Nat) (nxc : Nat) (soc : Nat), v_RM_look_101 nx so tX k a (p_RM_look nx so tX k a) s0 nxc soc → ig_W zp l ze ({ frames := 2, cells := 0, slots := 0, locals := 46 }) zs zm zargs zbelow zmeth zc (dC, dI) ig_cl0 zA zs.heap 4 0 0 zQ 101 [] [.int (nI s0), .ref o0] [(o0, .inr (ciRM, [.int th, .ref ra, .int si, .ref rx, .ref rf, .ref rt, .ref rb, .ref rl, .int ru, .ref rp, .ref ru_, .ref rv, .int na, .int (nI nxc), .int (nI soc), .ref rr, .ref rs, .ref rg, .ref rh, .int pa, .ref rz, .ref ry, .int bz, .int de, .int dp, .int io])), (rx, .inl (cI, 1000, .inl tX))] := by
    intro s0 nxc soc hv
    unfold v_RM_look_101 at hv
    refine ig_put (ty := .int) (v := .int (nI s0)) (ws' := [(o0, .inr (ciRM, [.int th, .ref ra, .int si, .ref rx, .ref rf, .ref rt, .ref rb, .ref rl, .int ru, .ref rp, .ref ru_, .ref rv, .int na, .int (nI nxc), .int (nI s0), .ref rr, .ref rs, .ref rg, .ref rh, .int pa, .ref rz, .ref ry, .int bz, .int de, .int dp, .int io])), (rx, .inl (cI, 1000, .inl tX))]) hx hb hts in_RM t_RM t_RM_ok n_RM hown hK 0 rfl rfl 14 (by decide) (hts _ kw_1_159) (fun _ h => h) rfl (by decide +kernel) rfl rfl (Nat.le_of_ble_eq_true rfl) d_RM_look_101 rfl ?_
    exact hret 104 _ (nxc, s0) d_RM_look_104 hv
  have j36 : ∀ (x : Int32) (s0 : Nat) (nxc : Nat) (soc : Nat), v_RM_look_36 nx so tX k a (p_RM_look nx so tX k a) x s0 nxc soc → ig_W zp l ze ({ frames := 2, cells := 0, slots := 0, locals := 46 }) zs zm zargs zbelow zmeth zc (dC, dI) ig_cl0 zA zs.heap 4 0 0 zQ 36 [(0, .ref o0), (1, .int (nI k)), (2, .int (nI a)), (3, .int x)] [.int (nI s0), .ref o0] [(o0, .inr (ciRM, [.int th, .ref ra, .int si, .ref rx, .ref rf, .ref rt, .ref rb, .ref rl, .int ru, .ref rp, .ref ru_, .ref rv, .int na, .int (nI nxc), .int (nI soc), .ref rr, .ref rs, .ref rg, .ref rh, .int pa, .ref rz, .ref ry, .int bz, .int de, .int dp, .int io])), (rx, .inl (cI, 1000, .inl tX))] := by
    intro x s0 nxc soc hv
    unfold v_RM_look_36 at hv
    refine ig_put (ty := .int) (v := .int (nI s0)) (ws' := [(o0, .inr (ciRM, [.int th, .ref ra, .int si, .ref rx, .ref rf, .ref rt, .ref rb, .ref rl, .int ru, .ref rp, .ref ru_, .ref rv, .int na, .int (nI nxc), .int (nI s0), .ref rr, .ref rs, .ref rg, .ref rh, .int pa, .ref rz, .ref ry, .int bz, .int de, .int dp, .int io])), (rx, .inl (cI, 1000, .inl tX))]) hx hb hts in_RM t_RM t_RM_ok n_RM hown hK 0 rfl rfl 14 (by decide) (hts _ kw_1_159) (fun _ h => h) rfl (by decide +kernel) rfl rfl (Nat.le_of_ble_eq_true rfl) d_RM_look_36 rfl ?_
    refine ig_iload_n hx hb 3 d_RM_look_39 rfl rfl ?_
    refine ig_bipush (v := 92) hx hb d_RM_look_40 (by decide) ?_
    refine ig_icmp_ne (tgt := 71) hx hb d_RM_look_42 (by decide) (fun h => ?_) (fun h => ?_)
    · have hv := hv.1 h
      refine ig_iload_n hx hb 3 d_RM_look_71 rfl rfl ?_
      refine ig_bipush (v := 91) hx hb d_RM_look_72 (by decide) ?_
      refine ig_icmp_ne (tgt := 104) hx hb d_RM_look_74 (by decide) (fun h => ?_) (fun h => ?_)
      · have hv := hv.1 h
        exact hret 104 _ (nxc, s0) d_RM_look_104 hv
      · have hv := hv.2 h
        refine ig_aload_n hx hb 0 d_RM_look_77 rfl rfl ?_
        refine ig_aload_n hx hb 0 d_RM_look_78 rfl rfl ?_
        refine ig_iload_n hx hb 1 d_RM_look_79 rfl rfl ?_
        refine ig_iload_n hx hb 2 d_RM_look_80 rfl rfl ?_
        obtain ⟨hc, hv⟩ := hv
        refine ig_cVi (As := [.int (nI k), .int (nI a)]) (rest := [.ref o0]) (wr := []) (ws' := fun u => [(o0, .inr (ciRM, [.int th, .ref ra, .int si, .ref rx, .ref rf, .ref rt, .ref rb, .ref rl, .int ru, .ref rp, .ref ru_, .ref rv, .int na, .int (nI nxc), .int (nI s0), .ref rr, .ref rs, .ref rg, .ref rh, .int pa, .ref rz, .ref ry, .int bz, .int de, .int dp, .int io])), (rx, .inl (cI, 1000, .inl tX))]) hx hb hml hown hts hK hN hA (fun sz => c_RM_setEnd l dC dI cC cI cZ cL o0 ra rx rf rt rb rl rp ru_ rv rr rs rg rh rz ry th si ru na (nI nxc) (nI s0) pa bz de dp io tX k a sz hc) ⟨callB_of 2 hts g_RM_setEnd rfl rfl rfl (hts _ kw_0_5) (hts _ kw_2_37) (by decide +kernel) (by decide), (hts _ kw_2_39), (hts _ ks_RM_setEnd)⟩ rfl rfl (Nat.le_of_ble_eq_true rfl) d_RM_look_81 (by decide) 0 rfl rfl [0, 1] [] [0, 1] rfl rfl (by decide) (by decide) (by decide) (fun _ => rfl) (fun _ => rfl) (fun r u hr => ?_)
        obtain ⟨rr, rfl, hr⟩ := hr
        unfold p_RM_setEnd at hr
        subst hr
        refine ig_put (ty := .int) (v := .int (nI (sp_se tX a (sp_sf tX a k) true))) (ws' := [(o0, .inr (ciRM, [.int th, .ref ra, .int si, .ref rx, .ref rf, .ref rt, .ref rb, .ref rl, .int ru, .ref rp, .ref ru_, .ref rv, .int na, .int (nI (sp_se tX a (sp_sf tX a k) true)), .int (nI s0), .ref rr, .ref rs, .ref rg, .ref rh, .int pa, .ref rz, .ref ry, .int bz, .int de, .int dp, .int io])), (rx, .inl (cI, 1000, .inl tX))]) hx hb hts in_RM t_RM t_RM_ok n_RM hown hK 0 rfl rfl 13 (by decide) (hts _ kw_1_158) (fun _ h => h) rfl (by decide +kernel) rfl rfl (Nat.le_of_ble_eq_true rfl) d_RM_look_84 rfl ?_
        refine ig_aload_n hx hb 0 d_RM_look_87 rfl rfl ?_
        refine ig_aload_n hx hb 0 d_RM_look_88 rfl rfl ?_
        refine ig_get hx hb hts in_RM hown hK 0 rfl rfl 13 (by decide) (hts _ kw_1_158) (fun _ h => h) rfl d_RM_look_89 ?_
        refine ig_iload_n hx hb 2 d_RM_look_92 rfl rfl ?_
        obtain ⟨h1, hv⟩ := hv
        obtain ⟨h2, hv⟩ := hv
        refine ig_icmp_leN (tgt := 100) hx hb (sp_se tX a (sp_sf tX a k) true) a rfl rfl d_RM_look_93 (by decide) h1 h2 (fun h => ?_) (fun h => ?_)
        · have hv := hv.1 h
          refine ig_iconst (v := 3) hx hb d_RM_look_100 (by decide) ?_
          refine ig_lv (lv' := []) [] rfl ?_
          exact j101 _ _ _ hv
        · have hv := hv.2 h
          refine ig_iconst (v := 4) hx hb d_RM_look_96 (by decide) ?_
          refine ig_goto (tgt := 101) hx hb d_RM_look_97 (by decide) ?_
          refine ig_lv (lv' := []) [] rfl ?_
          exact j101 _ _ _ hv
    · have hv := hv.2 h
      refine ig_aload_n hx hb 0 d_RM_look_45 rfl rfl ?_
      refine ig_iload_n hx hb 1 d_RM_look_46 rfl rfl ?_
      refine ig_iconst (v := 1) hx hb d_RM_look_47 (by decide) ?_
      refine ig_iaddN hx hb k 1 rfl rfl d_RM_look_48 ?_
      refine ig_iload_n hx hb 2 d_RM_look_49 rfl rfl ?_
      obtain ⟨h1, hv⟩ := hv
      obtain ⟨h2, hv⟩ := hv
      refine ig_icmp_geN (tgt := 57) hx hb (k + 1) a rfl rfl d_RM_look_50 (by decide) h1 h2 (fun h => ?_) (fun h => ?_)
      · have hv := hv.1 h
        refine ig_iconst (v := 4) hx hb d_RM_look_57 (by decide) ?_
        refine ig_lv (lv' := [(0, .ref o0), (1, .int (nI k))]) [0, 1] rfl ?_
        exact j58 _ _ _ hv
      · have hv := hv.2 h
        refine ig_iconst (v := 0) hx hb d_RM_look_53 (by decide) ?_
        refine ig_goto (tgt := 58) hx hb d_RM_look_54 (by decide) ?_
        refine ig_lv (lv' := [(0, .ref o0), (1, .int (nI k))]) [0, 1] rfl ?_
        exact j58 _ _ _ hv
  have hv := t_RM_look nx so tX k a hr 
  unfold v_RM_look at hv
  refine ig_aload_n hx hb 0 d_RM_look_0 rfl rfl ?_
  refine ig_get hx hb hts in_RM hown hK 0 rfl rfl 3 (by decide) (hts _ kw_1_148) (fun _ h => h) rfl d_RM_look_1 ?_
  refine ig_iload_n hx hb 1 d_RM_look_4 rfl rfl ?_
  obtain ⟨hc, hv⟩ := hv
  refine ig_iald (x := (tX k)) hx hb hK 1 1 rfl rfl k rfl hc (by decide) rfl d_RM_look_5 ?_
  refine ig_istore_n (lv' := [(3, .int (tX k)), (0, .ref o0), (1, .int (nI k)), (2, .int (nI a))]) hx hb d_RM_look_6 rfl (by decide) rfl ?_
  refine ig_aload_n hx hb 1 d_RM_look_7 rfl rfl ?_
  refine ig_iload_n hx hb 2 d_RM_look_8 rfl rfl ?_
  refine ig_iconst (v := 1) hx hb d_RM_look_9 (by decide) ?_
  refine ig_iaddN hx hb k 1 rfl rfl d_RM_look_10 ?_
  refine ig_put (ty := .int) (v := .int (nI (k + 1))) (ws' := [(o0, .inr (ciRM, [.int th, .ref ra, .int si, .ref rx, .ref rf, .ref rt, .ref rb, .ref rl, .int ru, .ref rp, .ref ru_, .ref rv, .int na, .int (nI (k + 1)), .int (nI so), .ref rr, .ref rs, .ref rg, .ref rh, .int pa, .ref rz, .ref ry, .int bz, .int de, .int dp, .int io])), (rx, .inl (cI, 1000, .inl tX))]) hx hb hts in_RM t_RM t_RM_ok n_RM hown hK 0 rfl rfl 13 (by decide) (hts _ kw_1_158) (fun _ h => h) rfl (by decide +kernel) rfl rfl (Nat.le_of_ble_eq_true rfl) d_RM_look_11 rfl ?_
  refine ig_aload_n hx hb 1 d_RM_look_14 rfl rfl ?_
  refine ig_iload_n hx hb 0 d_RM_look_15 rfl rfl ?_
  refine ig_bipush (v := 63) hx hb d_RM_look_16 (by decide) ?_
  refine ig_icmp_ne (tgt := 25) hx hb d_RM_look_18 (by decide) (fun h => ?_) (fun h => ?_)
  · have hv := hv.1 h
    refine ig_iload_n hx hb 0 d_RM_look_25 rfl rfl ?_
    refine ig_bipush (v := 42) hx hb d_RM_look_26 (by decide) ?_
    refine ig_icmp_ne (tgt := 35) hx hb d_RM_look_28 (by decide) (fun h => ?_) (fun h => ?_)
    · have hv := hv.1 h
      refine ig_iconst (v := 0) hx hb d_RM_look_35 (by decide) ?_
      refine ig_lv (lv' := [(0, .ref o0), (1, .int (nI k)), (2, .int (nI a)), (3, .int (tX k))]) [1, 2, 3, 0] rfl ?_
      exact j36 _ _ _ _ hv
    · have hv := hv.2 h
      refine ig_iconst (v := 2) hx hb d_RM_look_31 (by decide) ?_
      refine ig_goto (tgt := 36) hx hb d_RM_look_32 (by decide) ?_
      refine ig_lv (lv' := [(0, .ref o0), (1, .int (nI k)), (2, .int (nI a)), (3, .int (tX k))]) [1, 2, 3, 0] rfl ?_
      exact j36 _ _ _ _ hv
  · have hv := hv.2 h
    refine ig_iconst (v := 1) hx hb d_RM_look_21 (by decide) ?_
    refine ig_goto (tgt := 36) hx hb d_RM_look_22 (by decide) ?_
    refine ig_lv (lv' := [(0, .ref o0), (1, .int (nI k)), (2, .int (nI a)), (3, .int (tX k))]) [1, 2, 3, 0] rfl ?_
    exact j36 _ _ _ _ hv
theorem d_RM_isVoidName_0 : decode b_RM_isVoidName 0 = .ok (.iload_n 1, 1) := by decide +kernel
theorem d_RM_isVoidName_1 : decode b_RM_isVoidName 1 = .ok (.istore_n 3, 1) := by decide +kernel
theorem d_RM_isVoidName_2 : decode b_RM_isVoidName 2 = .ok (.iload_n 3, 1) := by decide +kernel
theorem d_RM_isVoidName_3 : decode b_RM_isVoidName 3 = .ok (.iload_n 2, 1) := by decide +kernel
theorem d_RM_isVoidName_4 : decode b_RM_isVoidName 4 = .ok (.if_icmp .ge 27, 3) := by decide +kernel
theorem d_RM_isVoidName_7 : decode b_RM_isVoidName 7 = .ok (.aload_n 0, 1) := by decide +kernel
theorem d_RM_isVoidName_8 : decode b_RM_isVoidName 8 = .ok (.iload_n 3, 1) := by decide +kernel
theorem d_RM_isVoidName_9 : decode b_RM_isVoidName 9 = .ok (.iload_n 2, 1) := by decide +kernel
theorem d_RM_isVoidName_10 : decode b_RM_isVoidName 10 = .ok (.invokevirtual 89, 3) := by decide +kernel
theorem d_RM_isVoidName_13 : decode b_RM_isVoidName 13 = .ok (.aload_n 0, 1) := by decide +kernel
theorem d_RM_isVoidName_14 : decode b_RM_isVoidName 14 = .ok (.getfield 68, 3) := by decide +kernel
theorem d_RM_isVoidName_17 : decode b_RM_isVoidName 17 = .ok (.iconst 4, 1) := by decide +kernel
theorem d_RM_isVoidName_18 : decode b_RM_isVoidName 18 = .ok (.if_icmp .ne 5, 3) := by decide +kernel
theorem d_RM_isVoidName_21 : decode b_RM_isVoidName 21 = .ok (.iconst 1, 1) := by decide +kernel
theorem d_RM_isVoidName_22 : decode b_RM_isVoidName 22 = .ok (.ireturn, 1) := by decide +kernel
theorem d_RM_isVoidName_23 : decode b_RM_isVoidName 23 = .ok (.aload_n 0, 1) := by decide +kernel
theorem d_RM_isVoidName_24 : decode b_RM_isVoidName 24 = .ok (.getfield 65, 3) := by decide +kernel
theorem d_RM_isVoidName_27 : decode b_RM_isVoidName 27 = .ok (.istore_n 3, 1) := by decide +kernel
theorem d_RM_isVoidName_28 : decode b_RM_isVoidName 28 = .ok (.goto (-26), 3) := by decide +kernel
theorem d_RM_isVoidName_31 : decode b_RM_isVoidName 31 = .ok (.iload_n 1, 1) := by decide +kernel
theorem d_RM_isVoidName_32 : decode b_RM_isVoidName 32 = .ok (.iload_n 2, 1) := by decide +kernel
theorem d_RM_isVoidName_33 : decode b_RM_isVoidName 33 = .ok (.if_icmp .ne 7, 3) := by decide +kernel
theorem d_RM_isVoidName_36 : decode b_RM_isVoidName 36 = .ok (.iconst 1, 1) := by decide +kernel
theorem d_RM_isVoidName_37 : decode b_RM_isVoidName 37 = .ok (.goto 4, 3) := by decide +kernel
theorem d_RM_isVoidName_40 : decode b_RM_isVoidName 40 = .ok (.iconst 0, 1) := by decide +kernel
theorem d_RM_isVoidName_41 : decode b_RM_isVoidName 41 = .ok (.ireturn, 1) := by decide +kernel
abbrev w_RM_isVoidName : List Cond := Cond.code y_RM_isVoidName b_RM_isVoidName 4 (some .boolean) :: ig_T
theorem g_RM_isVoidName : GoodIn ig_T w_RM_isVoidName := ig_T_good (ig_T_mem (List.mem_append_right _ (List.mem_append_right _ (List.mem_of_getElem? (i := 32) rfl))) rfl)
set_option maxHeartbeats 4000000 in
set_option maxRecDepth 100000 in
theorem c_RM_isVoidName (l : Launch) (dC : Nat → ClassId) (dI : Nat → Nat → Nat) (cC cI cZ cL : ClassId) (o0 ra rx rf rt rb rl rp ru_ rv rr rs rg rh rz ry : Nat) (th : Int32) (si : Int32) (ru : Int32) (na : Int32) (pa : Int32) (bz : Int32) (de : Int32) (dp : Int32) (io : Int32) (nx : Nat) (so : Nat) (tX : Nat → Int32) (f : Nat) (a : Nat) (sz : Nat) (hr : r_RM_isVoidName nx so tX f a) : Met l y_RM_isVoidName w_RM_isVoidName ({ frames := 3, cells := 0, slots := 0, locals := 69 }) (ig_Pc (dC, dI) ig_cl0 [(cC, .char), (cI, .int), (cZ, .boolean), (cL, .long)] [.ref o0, .int (nI f), .int (nI a)] [(o0, .inr (ciRM, [.int th, .ref ra, .int si, .ref rx, .ref rf, .ref rt, .ref rb, .ref rl, .int ru, .ref rp, .ref ru_, .ref rv, .int na, .int (nI nx), .int (nI so), .ref rr, .ref rs, .ref rg, .ref rh, .int pa, .ref rz, .ref ry, .int bz, .int de, .int dp, .int io])), (rx, .inl (cI, 1000, .inl tX))] sz) (va_Qi (fun (r : Int32) (u : Nat × Nat) => ∃ zr : Bool, r = bI zr ∧ p_RM_isVoidName nx so tX f a zr u.1 u.2) (fun u t => va_P (dC, dI) ig_cl0 ((fun (u : Nat × Nat) => [(o0, .inr (ciRM, [.int th, .ref ra, .int si, .ref rx, .ref rf, .ref rt, .ref rb, .ref rl, .int ru, .ref rp, .ref ru_, .ref rv, .int na, .int (nI u.1), .int (nI u.2), .ref rr, .ref rs, .ref rg, .ref rh, .int pa, .ref rz, .ref ry, .int bz, .int de, .int dp, .int io])), (rx, .inl (cI, 1000, .inl tX))]) u) t.heap ∧ va_D (va_A [(o0, .inr (ciRM, [.int th, .ref ra, .int si, .ref rx, .ref rf, .ref rt, .ref rb, .ref rl, .int ru, .ref rp, .ref ru_, .ref rv, .int na, .int (nI nx), .int (nI so), .ref rr, .ref rs, .ref rg, .ref rh, .int pa, .ref rz, .ref ry, .int bz, .int de, .int dp, .int io])), (rx, .inl (cI, 1000, .inl tX))] sz) ((fun (u : Nat × Nat) => [(o0, .inr (ciRM, [.int th, .ref ra, .int si, .ref rx, .ref rf, .ref rt, .ref rb, .ref rl, .int ru, .ref rp, .ref ru_, .ref rv, .int na, .int (nI u.1), .int (nI u.2), .ref rr, .ref rs, .ref rg, .ref rh, .int pa, .ref rz, .ref ry, .int bz, .int de, .int dp, .int io])), (rx, .inl (cI, 1000, .inl tX))]) u)) (va_A [(o0, .inr (ciRM, [.int th, .ref ra, .int si, .ref rx, .ref rf, .ref rt, .ref rb, .ref rl, .int ru, .ref rp, .ref ru_, .ref rv, .int na, .int (nI nx), .int (nI so), .ref rr, .ref rs, .ref rg, .ref rh, .int pa, .ref rz, .ref ry, .int bz, .int de, .int dp, .int io])), (rx, .inl (cI, 1000, .inl tX))] sz)) 0 0 (va_A [(o0, .inr (ciRM, [.int th, .ref ra, .int si, .ref rx, .ref rf, .ref rt, .ref rb, .ref rl, .int ru, .ref rp, .ref ru_, .ref rv, .int na, .int (nI nx), .int (nI so), .ref rr, .ref rs, .ref rg, .ref rh, .int pa, .ref rz, .ref ry, .int bz, .int de, .int dp, .int io])), (rx, .inl (cI, 1000, .inl tX))] sz) := by
  refine ig_metI (fun (r : Int32) (u : Nat × Nat) => ∃ zr : Bool, r = bI zr ∧ p_RM_isVoidName nx so tX f a zr u.1 u.2) (fun (u : Nat × Nat) => [(o0, .inr (ciRM, [.int th, .ref ra, .int si, .ref rx, .ref rf, .ref rt, .ref rb, .ref rl, .int ru, .ref rp, .ref ru_, .ref rv, .int na, .int (nI u.1), .int (nI u.2), .ref rr, .ref rs, .ref rg, .ref rh, .int pa, .ref rz, .ref ry, .int bz, .int de, .int dp, .int io])), (rx, .inl (cI, 1000, .inl tX))]) (by decide) rfl (Nat.le_of_ble_eq_true rfl) rfl (by rintro r u ⟨b, rfl, -⟩; exact bI_ret b) ?_
  intro zp ze zs zm zargs zbelow zmeth zc zA zQ hx hb hml hown hts hK hN hA hret
  obtain ⟨K2, hK2⟩ : ∃ K : Nat → Nat → Nat → Prop, K = fun (b : Nat) (nxc : Nat) (soc : Nat) => ig_W zp l ze ({ frames := 3, cells := 0, slots := 0, locals := 69 }) zs zm zargs zbelow zmeth zc (dC, dI) ig_cl0 zA zs.heap 4 0 0 zQ 2 [(0, .ref o0), (1, .int (nI f)), (2, .int (nI a)), (3, .int (nI b))] [] [(o0, .inr (ciRM, [.int th, .ref ra, .int si, .ref rx, .ref rf, .ref rt, .ref rb, .ref rl, .int ru, .ref rp, .ref ru_, .ref rv, .int na, .int (nI nxc), .int (nI soc), .ref rr, .ref rs, .ref rg, .ref rh, .int pa, .ref rz, .ref ry, .int bz, .int de, .int dp, .int io])), (rx, .inl (cI, 1000, .inl tX))] := ⟨_, rfl⟩
  have k2 : ∀ (b : Nat) (nxc : Nat) (soc : Nat), v_RM_isVoidName_2 nx so tX f a K2 (p_RM_isVoidName nx so tX f a) b nxc soc → K2 b nxc soc := by
    intro b nxc soc hv
    unfold v_RM_isVoidName_2 at hv
    rw [hK2]
    show ig_W zp l ze ({ frames := 3, cells := 0, slots := 0, locals := 69 }) zs zm zargs zbelow zmeth zc (dC, dI) ig_cl0 zA zs.heap 4 0 0 zQ 2 [(0, .ref o0), (1, .int (nI f)), (2, .int (nI a)), (3, .int (nI b))] [] [(o0, .inr (ciRM, [.int th, .ref ra, .int si, .ref rx, .ref rf, .ref rt, .ref rb, .ref rl, .int ru, .ref rp, .ref ru_, .ref rv, .int na, .int (nI nxc), .int (nI soc), .ref rr, .ref rs, .ref rg, .ref rh, .int pa, .ref rz, .ref ry, .int bz, .int de, .int dp, .int io])), (rx, .inl (cI, 1000, .inl tX))]
    refine ig_iload_n hx hb 3 d_RM_isVoidName_2 rfl rfl ?_
    refine ig_iload_n hx hb 2 d_RM_isVoidName_3 rfl rfl ?_
    obtain ⟨h1, hv⟩ := hv
    obtain ⟨h2, hv⟩ := hv
    refine ig_icmp_geN (tgt := 31) hx hb b a rfl rfl d_RM_isVoidName_4 (by decide) h1 h2 (fun h => ?_) (fun h => ?_)
    · have hv := hv.1 h
      refine ig_iload_n hx hb 1 d_RM_isVoidName_31 rfl rfl ?_
      refine ig_iload_n hx hb 2 d_RM_isVoidName_32 rfl rfl ?_
      obtain ⟨h1, hv⟩ := hv
      obtain ⟨h2, hv⟩ := hv
      refine ig_icmp_neN (tgt := 40) hx hb f a rfl rfl d_RM_isVoidName_33 (by decide) h1 h2 (fun h => ?_) (fun h => ?_)
      · have hv := hv.1 h
        refine ig_iconst (v := 0) hx hb d_RM_isVoidName_40 (by decide) ?_
        exact hret 41 _ 0 (nxc, soc) d_RM_isVoidName_41 ⟨false, rfl, hv⟩
      · have hv := hv.2 h
        refine ig_iconst (v := 1) hx hb d_RM_isVoidName_36 (by decide) ?_
        refine ig_goto (tgt := 41) hx hb d_RM_isVoidName_37 (by decide) ?_
        exact hret 41 _ 1 (nxc, soc) d_RM_isVoidName_41 ⟨true, rfl, hv⟩
    · have hv := hv.2 h
      refine ig_aload_n hx hb 0 d_RM_isVoidName_7 rfl rfl ?_
      refine ig_iload_n hx hb 3 d_RM_isVoidName_8 rfl rfl ?_
      refine ig_iload_n hx hb 2 d_RM_isVoidName_9 rfl rfl ?_
      obtain ⟨hc, hv⟩ := hv
      refine ig_cVv (As := [.int (nI b), .int (nI a)]) (rest := []) (wr := []) (ws' := fun u => [(o0, .inr (ciRM, [.int th, .ref ra, .int si, .ref rx, .ref rf, .ref rt, .ref rb, .ref rl, .int ru, .ref rp, .ref ru_, .ref rv, .int na, .int (nI u.1), .int (nI u.2), .ref rr, .ref rs, .ref rg, .ref rh, .int pa, .ref rz, .ref ry, .int bz, .int de, .int dp, .int io])), (rx, .inl (cI, 1000, .inl tX))]) hx hb hml hown hts hK hN hA (fun sz => c_RM_look l dC dI cC cI cZ cL o0 ra rx rf rt rb rl rp ru_ rv rr rs rg rh rz ry th si ru na pa bz de dp io nxc soc tX b a sz hc) ⟨callB_of 2 hts g_RM_look rfl rfl rfl (hts _ kw_0_5) (hts _ kw_2_33) (by decide +kernel) (by decide), (hts _ kw_2_35), (hts _ ks_RM_look)⟩ rfl rfl (Nat.le_of_ble_eq_true rfl) d_RM_isVoidName_10 (by decide) 0 rfl rfl [0, 1] [] [0, 1] rfl rfl (by decide) (by decide) (by decide) (fun _ => rfl) (fun _ => rfl) (fun u hr => ?_)
      obtain ⟨w1, w2⟩ := u
      unfold p_RM_look at hr
      obtain ⟨rfl, rfl⟩ := hr
      refine ig_aload_n hx hb 0 d_RM_isVoidName_13 rfl rfl ?_
      refine ig_get hx hb hts in_RM hown hK 0 rfl rfl 14 (by decide) (hts _ kw_1_159) (fun _ h => h) rfl d_RM_isVoidName_14 ?_
      refine ig_iconst (v := 4) hx hb d_RM_isVoidName_17 (by decide) ?_
      obtain ⟨h1, hv⟩ := hv
      refine ig_icmp_neN (tgt := 23) hx hb (sp_sort tX a b) 4 rfl rfl d_RM_isVoidName_18 (by decide) h1 (by decide) (fun h => ?_) (fun h => ?_)
      · have hv := hv.1 h
        refine ig_aload_n hx hb 0 d_RM_isVoidName_23 rfl rfl ?_
        refine ig_get hx hb hts in_RM hown hK 0 rfl rfl 13 (by decide) (hts _ kw_1_158) (fun _ h => h) rfl d_RM_isVoidName_24 ?_
        refine ig_istore_n (lv' := [(3, .int (nI (sp_end tX a b))), (0, .ref o0), (1, .int (nI f)), (2, .int (nI a))]) hx hb d_RM_isVoidName_27 rfl (by decide) rfl ?_
        refine ig_goto (tgt := 2) hx hb d_RM_isVoidName_28 (by decide) ?_
        refine ig_lv (lv' := [(0, .ref o0), (1, .int (nI f)), (2, .int (nI a)), (3, .int (nI (sp_end tX a b)))]) [1, 2, 3, 0] rfl ?_
        rw [hK2] at hv
        exact hv
      · have hv := hv.2 h
        refine ig_iconst (v := 1) hx hb d_RM_isVoidName_21 (by decide) ?_
        exact hret 22 _ 1 (sp_end tX a b, sp_sort tX a b) d_RM_isVoidName_22 ⟨true, rfl, hv⟩
  have hv := t_RM_isVoidName nx so tX f a hr K2 k2
  unfold v_RM_isVoidName at hv
  refine ig_iload_n hx hb 1 d_RM_isVoidName_0 rfl rfl ?_
  refine ig_istore_n (lv' := [(3, .int (nI f)), (0, .ref o0), (1, .int (nI f)), (2, .int (nI a))]) hx hb d_RM_isVoidName_1 rfl (by decide) rfl ?_
  refine ig_lv (lv' := [(0, .ref o0), (1, .int (nI f)), (2, .int (nI a)), (3, .int (nI f))]) [1, 2, 3, 0] rfl ?_
  rw [hK2] at hv
  exact hv
end
