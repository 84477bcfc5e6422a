-- ===== PART A: goes FIRST, ahead of the names: the tables' words, and 'selects' of the private methods out of them =====
/-- a private method of a class that the tables say can be made, by its rows of tables_1 -/
def lw_okq (q : MethodName × Nat) : Prop := (q.1.cls ≠ "java/lang/invoke/MethodHandle" ∧ q.1.cls ≠ "java/lang/invoke/VarHandle") ∧ Cond.instantiable q.1.cls q.2 ∈ tables_1 ∧ Cond.privateMethod q.1 ∈ tables_1 ∧ Cond.instanceMethod q.1 ∈ tables_1
theorem lw_p0 : lw_okq (⟨"ClassShape$Judging", "readHead", "()Z"⟩, 7) := ⟨⟨by decide +kernel, by decide +kernel⟩, List.mem_of_getElem? (i := 46) (by decide +kernel), List.mem_of_getElem? (i := 257) (by decide +kernel), List.mem_of_getElem? (i := 258) (by decide +kernel)⟩
theorem lw_p1 : lw_okq (⟨"ClassShape$Pool", "readEntry", "(II)Z"⟩, 5) := ⟨⟨by decide +kernel, by decide +kernel⟩, List.mem_of_getElem? (i := 87) (by decide +kernel), List.mem_of_getElem? (i := 285) (by decide +kernel), List.mem_of_getElem? (i := 286) (by decide +kernel)⟩
theorem lw_p2 : lw_okq (⟨"ClassShape$Pool", "readLetters", "(I)Z"⟩, 5) := ⟨⟨by decide +kernel, by decide +kernel⟩, List.mem_of_getElem? (i := 87) (by decide +kernel), List.mem_of_getElem? (i := 292) (by decide +kernel), List.mem_of_getElem? (i := 293) (by decide +kernel)⟩
theorem lw_p3 : lw_okq (⟨"ClassShape$Pool", "takeSecondNumber", "(II)Z"⟩, 5) := ⟨⟨by decide +kernel, by decide +kernel⟩, List.mem_of_getElem? (i := 87) (by decide +kernel), List.mem_of_getElem? (i := 302) (by decide +kernel), List.mem_of_getElem? (i := 303) (by decide +kernel)⟩
theorem lw_p4 : lw_okq (⟨"ClassShape$Pool", "referencesFit", "(I)Z"⟩, 5) := ⟨⟨by decide +kernel, by decide +kernel⟩, List.mem_of_getElem? (i := 87) (by decide +kernel), List.mem_of_getElem? (i := 310) (by decide +kernel), List.mem_of_getElem? (i := 311) (by decide +kernel)⟩
theorem lw_p5 : lw_okq (⟨"ClassShape$Pool", "first", "(I)I"⟩, 5) := ⟨⟨by decide +kernel, by decide +kernel⟩, List.mem_of_getElem? (i := 87) (by decide +kernel), List.mem_of_getElem? (i := 314) (by decide +kernel), List.mem_of_getElem? (i := 315) (by decide +kernel)⟩
theorem lw_p6 : lw_okq (⟨"ClassShape$Pool", "second", "(I)I"⟩, 5) := ⟨⟨by decide +kernel, by decide +kernel⟩, List.mem_of_getElem? (i := 87) (by decide +kernel), List.mem_of_getElem? (i := 322) (by decide +kernel), List.mem_of_getElem? (i := 323) (by decide +kernel)⟩
theorem lw_p7 : lw_okq (⟨"ClassShape$Pool", "textRule", "(I)I"⟩, 5) := ⟨⟨by decide +kernel, by decide +kernel⟩, List.mem_of_getElem? (i := 87) (by decide +kernel), List.mem_of_getElem? (i := 330) (by decide +kernel), List.mem_of_getElem? (i := 331) (by decide +kernel)⟩
theorem lw_p8 : lw_okq (⟨"ClassShape$Judging", "readClass", "()Z"⟩, 7) := ⟨⟨by decide +kernel, by decide +kernel⟩, List.mem_of_getElem? (i := 46) (by decide +kernel), List.mem_of_getElem? (i := 425) (by decide +kernel), List.mem_of_getElem? (i := 426) (by decide +kernel)⟩
theorem lw_p9 : lw_okq (⟨"ClassShape$Judging", "readClassNumber", "()Z"⟩, 7) := ⟨⟨by decide +kernel, by decide +kernel⟩, List.mem_of_getElem? (i := 46) (by decide +kernel), List.mem_of_getElem? (i := 432) (by decide +kernel), List.mem_of_getElem? (i := 433) (by decide +kernel)⟩
theorem lw_p10 : lw_okq (⟨"ClassShape$Judging", "readInterfaces", "()Z"⟩, 7) := ⟨⟨by decide +kernel, by decide +kernel⟩, List.mem_of_getElem? (i := 46) (by decide +kernel), List.mem_of_getElem? (i := 437) (by decide +kernel), List.mem_of_getElem? (i := 438) (by decide +kernel)⟩
theorem lw_p11 : lw_okq (⟨"ClassShape$Judging", "readNumber", "()I"⟩, 7) := ⟨⟨by decide +kernel, by decide +kernel⟩, List.mem_of_getElem? (i := 46) (by decide +kernel), List.mem_of_getElem? (i := 441) (by decide +kernel), List.mem_of_getElem? (i := 442) (by decide +kernel)⟩
theorem lw_p12 : lw_okq (⟨"ClassShape$Judging", "readFields", "()Z"⟩, 7) := ⟨⟨by decide +kernel, by decide +kernel⟩, List.mem_of_getElem? (i := 46) (by decide +kernel), List.mem_of_getElem? (i := 445) (by decide +kernel), List.mem_of_getElem? (i := 446) (by decide +kernel)⟩
theorem lw_p13 : lw_okq (⟨"ClassShape$Judging", "readMemberHead", "(IZ)Z"⟩, 7) := ⟨⟨by decide +kernel, by decide +kernel⟩, List.mem_of_getElem? (i := 46) (by decide +kernel), List.mem_of_getElem? (i := 449) (by decide +kernel), List.mem_of_getElem? (i := 450) (by decide +kernel)⟩
theorem lw_p14 : lw_okq (⟨"ClassShape$Judging", "countBrackets", "(I)V"⟩, 7) := ⟨⟨by decide +kernel, by decide +kernel⟩, List.mem_of_getElem? (i := 46) (by decide +kernel), List.mem_of_getElem? (i := 482) (by decide +kernel), List.mem_of_getElem? (i := 483) (by decide +kernel)⟩
theorem lw_p15 : lw_okq (⟨"ClassShape$Judging", "addMember", "(II)Z"⟩, 7) := ⟨⟨by decide +kernel, by decide +kernel⟩, List.mem_of_getElem? (i := 46) (by decide +kernel), List.mem_of_getElem? (i := 492) (by decide +kernel), List.mem_of_getElem? (i := 493) (by decide +kernel)⟩
def lw_privs_1 : List (MethodName × Nat) := [(⟨"ClassShape$Judging", "readHead", "()Z"⟩, 7), (⟨"ClassShape$Pool", "readEntry", "(II)Z"⟩, 5), (⟨"ClassShape$Pool", "readLetters", "(I)Z"⟩, 5), (⟨"ClassShape$Pool", "takeSecondNumber", "(II)Z"⟩, 5), (⟨"ClassShape$Pool", "referencesFit", "(I)Z"⟩, 5), (⟨"ClassShape$Pool", "first", "(I)I"⟩, 5), (⟨"ClassShape$Pool", "second", "(I)I"⟩, 5), (⟨"ClassShape$Pool", "textRule", "(I)I"⟩, 5), (⟨"ClassShape$Judging", "readClass", "()Z"⟩, 7), (⟨"ClassShape$Judging", "readClassNumber", "()Z"⟩, 7), (⟨"ClassShape$Judging", "readInterfaces", "()Z"⟩, 7), (⟨"ClassShape$Judging", "readNumber", "()I"⟩, 7), (⟨"ClassShape$Judging", "readFields", "()Z"⟩, 7), (⟨"ClassShape$Judging", "readMemberHead", "(IZ)Z"⟩, 7), (⟨"ClassShape$Judging", "countBrackets", "(I)V"⟩, 7), (⟨"ClassShape$Judging", "addMember", "(II)Z"⟩, 7)]
theorem lw_r1 : ∀ q ∈ lw_privs_1, lw_okq q := List.forall_mem_cons.mpr ⟨lw_p0, List.forall_mem_cons.mpr ⟨lw_p1, List.forall_mem_cons.mpr ⟨lw_p2, List.forall_mem_cons.mpr ⟨lw_p3, List.forall_mem_cons.mpr ⟨lw_p4, List.forall_mem_cons.mpr ⟨lw_p5, List.forall_mem_cons.mpr ⟨lw_p6, List.forall_mem_cons.mpr ⟨lw_p7, List.forall_mem_cons.mpr ⟨lw_p8, List.forall_mem_cons.mpr ⟨lw_p9, List.forall_mem_cons.mpr ⟨lw_p10, List.forall_mem_cons.mpr ⟨lw_p11, List.forall_mem_cons.mpr ⟨lw_p12, List.forall_mem_cons.mpr ⟨lw_p13, List.forall_mem_cons.mpr ⟨lw_p14, List.forall_mem_cons.mpr ⟨lw_p15, fun _ h => absurd h List.not_mem_nil⟩⟩⟩⟩⟩⟩⟩⟩⟩⟩⟩⟩⟩⟩⟩⟩
theorem lw_p16 : lw_okq (⟨"ClassShape$Judging", "readFieldAttribute", "(I)Z"⟩, 7) := ⟨⟨by decide +kernel, by decide +kernel⟩, List.mem_of_getElem? (i := 46) (by decide +kernel), List.mem_of_getElem? (i := 500) (by decide +kernel), List.mem_of_getElem? (i := 501) (by decide +kernel)⟩
theorem lw_p17 : lw_okq (⟨"ClassShape$Judging", "readAttributeName", "()Z"⟩, 7) := ⟨⟨by decide +kernel, by decide +kernel⟩, List.mem_of_getElem? (i := 46) (by decide +kernel), List.mem_of_getElem? (i := 504) (by decide +kernel), List.mem_of_getElem? (i := 505) (by decide +kernel)⟩
theorem lw_p18 : lw_okq (⟨"ClassShape$Judging", "stepAttributeBytes", "()Z"⟩, 7) := ⟨⟨by decide +kernel, by decide +kernel⟩, List.mem_of_getElem? (i := 46) (by decide +kernel), List.mem_of_getElem? (i := 508) (by decide +kernel), List.mem_of_getElem? (i := 509) (by decide +kernel)⟩
theorem lw_p19 : lw_okq (⟨"ClassShape$Judging", "constantFits", "(II)Z"⟩, 7) := ⟨⟨by decide +kernel, by decide +kernel⟩, List.mem_of_getElem? (i := 46) (by decide +kernel), List.mem_of_getElem? (i := 518) (by decide +kernel), List.mem_of_getElem? (i := 519) (by decide +kernel)⟩
theorem lw_p20 : lw_okq (⟨"ClassShape$Judging", "readMethods", "()Z"⟩, 7) := ⟨⟨by decide +kernel, by decide +kernel⟩, List.mem_of_getElem? (i := 46) (by decide +kernel), List.mem_of_getElem? (i := 522) (by decide +kernel), List.mem_of_getElem? (i := 523) (by decide +kernel)⟩
theorem lw_p21 : lw_okq (⟨"ClassShape$Judging", "readMethodAttribute", "()Z"⟩, 7) := ⟨⟨by decide +kernel, by decide +kernel⟩, List.mem_of_getElem? (i := 46) (by decide +kernel), List.mem_of_getElem? (i := 526) (by decide +kernel), List.mem_of_getElem? (i := 527) (by decide +kernel)⟩
theorem lw_p22 : lw_okq (⟨"ClassShape$Judging", "readCode", "(I)Z"⟩, 7) := ⟨⟨by decide +kernel, by decide +kernel⟩, List.mem_of_getElem? (i := 46) (by decide +kernel), List.mem_of_getElem? (i := 531) (by decide +kernel), List.mem_of_getElem? (i := 532) (by decide +kernel)⟩
theorem lw_p23 : lw_okq (⟨"ClassShape$Judging", "stepInstructions", "(I)Z"⟩, 7) := ⟨⟨by decide +kernel, by decide +kernel⟩, List.mem_of_getElem? (i := 46) (by decide +kernel), List.mem_of_getElem? (i := 539) (by decide +kernel), List.mem_of_getElem? (i := 540) (by decide +kernel)⟩
theorem lw_p24 : lw_okq (⟨"ClassShape$Judging", "passAttributes", "()Z"⟩, 7) := ⟨⟨by decide +kernel, by decide +kernel⟩, List.mem_of_getElem? (i := 46) (by decide +kernel), List.mem_of_getElem? (i := 543) (by decide +kernel), List.mem_of_getElem? (i := 544) (by decide +kernel)⟩
theorem lw_p25 : lw_okq (⟨"ClassShape$Code", "sizeOf", "(I)I"⟩, 10) := ⟨⟨by decide +kernel, by decide +kernel⟩, List.mem_of_getElem? (i := 110) (by decide +kernel), List.mem_of_getElem? (i := 558) (by decide +kernel), List.mem_of_getElem? (i := 559) (by decide +kernel)⟩
theorem lw_p26 : lw_okq (⟨"ClassShape$Code", "tableSize", "(I)I"⟩, 10) := ⟨⟨by decide +kernel, by decide +kernel⟩, List.mem_of_getElem? (i := 110) (by decide +kernel), List.mem_of_getElem? (i := 562) (by decide +kernel), List.mem_of_getElem? (i := 563) (by decide +kernel)⟩
theorem lw_p27 : lw_okq (⟨"ClassShape$Code", "wideSize", "(I)I"⟩, 10) := ⟨⟨by decide +kernel, by decide +kernel⟩, List.mem_of_getElem? (i := 110) (by decide +kernel), List.mem_of_getElem? (i := 570) (by decide +kernel), List.mem_of_getElem? (i := 571) (by decide +kernel)⟩
theorem lw_p28 : lw_okq (⟨"ClassShape$Code", "operandsFit", "(I)Z"⟩, 10) := ⟨⟨by decide +kernel, by decide +kernel⟩, List.mem_of_getElem? (i := 110) (by decide +kernel), List.mem_of_getElem? (i := 575) (by decide +kernel), List.mem_of_getElem? (i := 576) (by decide +kernel)⟩
theorem lw_p29 : lw_okq (⟨"ClassShape$Code", "jumpsFit", "(I)Z"⟩, 10) := ⟨⟨by decide +kernel, by decide +kernel⟩, List.mem_of_getElem? (i := 110) (by decide +kernel), List.mem_of_getElem? (i := 584) (by decide +kernel), List.mem_of_getElem? (i := 585) (by decide +kernel)⟩
theorem lw_p30 : lw_okq (⟨"ClassShape$Code", "isInstruction", "(J)Z"⟩, 10) := ⟨⟨by decide +kernel, by decide +kernel⟩, List.mem_of_getElem? (i := 110) (by decide +kernel), List.mem_of_getElem? (i := 588) (by decide +kernel), List.mem_of_getElem? (i := 589) (by decide +kernel)⟩
theorem lw_p31 : lw_okq (⟨"ClassShape$Code", "tableFits", "(I)Z"⟩, 10) := ⟨⟨by decide +kernel, by decide +kernel⟩, List.mem_of_getElem? (i := 110) (by decide +kernel), List.mem_of_getElem? (i := 592) (by decide +kernel), List.mem_of_getElem? (i := 593) (by decide +kernel)⟩
def lw_privs_2 : List (MethodName × Nat) := [(⟨"ClassShape$Judging", "readFieldAttribute", "(I)Z"⟩, 7), (⟨"ClassShape$Judging", "readAttributeName", "()Z"⟩, 7), (⟨"ClassShape$Judging", "stepAttributeBytes", "()Z"⟩, 7), (⟨"ClassShape$Judging", "constantFits", "(II)Z"⟩, 7), (⟨"ClassShape$Judging", "readMethods", "()Z"⟩, 7), (⟨"ClassShape$Judging", "readMethodAttribute", "()Z"⟩, 7), (⟨"ClassShape$Judging", "readCode", "(I)Z"⟩, 7), (⟨"ClassShape$Judging", "stepInstructions", "(I)Z"⟩, 7), (⟨"ClassShape$Judging", "passAttributes", "()Z"⟩, 7), (⟨"ClassShape$Code", "sizeOf", "(I)I"⟩, 10), (⟨"ClassShape$Code", "tableSize", "(I)I"⟩, 10), (⟨"ClassShape$Code", "wideSize", "(I)I"⟩, 10), (⟨"ClassShape$Code", "operandsFit", "(I)Z"⟩, 10), (⟨"ClassShape$Code", "jumpsFit", "(I)Z"⟩, 10), (⟨"ClassShape$Code", "isInstruction", "(J)Z"⟩, 10), (⟨"ClassShape$Code", "tableFits", "(I)Z"⟩, 10)]
theorem lw_r2 : ∀ q ∈ lw_privs_2, lw_okq q := List.forall_mem_cons.mpr ⟨lw_p16, List.forall_mem_cons.mpr ⟨lw_p17, List.forall_mem_cons.mpr ⟨lw_p18, List.forall_mem_cons.mpr ⟨lw_p19, List.forall_mem_cons.mpr ⟨lw_p20, List.forall_mem_cons.mpr ⟨lw_p21, List.forall_mem_cons.mpr ⟨lw_p22, List.forall_mem_cons.mpr ⟨lw_p23, List.forall_mem_cons.mpr ⟨lw_p24, List.forall_mem_cons.mpr ⟨lw_p25, List.forall_mem_cons.mpr ⟨lw_p26, List.forall_mem_cons.mpr ⟨lw_p27, List.forall_mem_cons.mpr ⟨lw_p28, List.forall_mem_cons.mpr ⟨lw_p29, List.forall_mem_cons.mpr ⟨lw_p30, List.forall_mem_cons.mpr ⟨lw_p31, fun _ h => absurd h List.not_mem_nil⟩⟩⟩⟩⟩⟩⟩⟩⟩⟩⟩⟩⟩⟩⟩⟩
theorem lw_p32 : lw_okq (⟨"ClassShape$Code", "handlerFits", "(I)Z"⟩, 10) := ⟨⟨by decide +kernel, by decide +kernel⟩, List.mem_of_getElem? (i := 110) (by decide +kernel), List.mem_of_getElem? (i := 604) (by decide +kernel), List.mem_of_getElem? (i := 605) (by decide +kernel)⟩
theorem lw_p33 : lw_okq (⟨"ClassShape", "rulesFound", "()I"⟩, 5) := ⟨⟨by decide +kernel, by decide +kernel⟩, List.mem_of_getElem? (i := 17) (by decide +kernel), List.mem_of_getElem? (i := 634) (by decide +kernel), List.mem_of_getElem? (i := 635) (by decide +kernel)⟩
theorem lw_p34 : lw_okq (⟨"ClassShapeModel", "missing", "(II)Z"⟩, 33) := ⟨⟨by decide +kernel, by decide +kernel⟩, List.mem_of_getElem? (i := 638) (by decide +kernel), List.mem_of_getElem? (i := 760) (by decide +kernel), List.mem_of_getElem? (i := 761) (by decide +kernel)⟩
theorem lw_p35 : lw_okq (⟨"ClassShapeModel", "take", "(II)V"⟩, 33) := ⟨⟨by decide +kernel, by decide +kernel⟩, List.mem_of_getElem? (i := 638) (by decide +kernel), List.mem_of_getElem? (i := 764) (by decide +kernel), List.mem_of_getElem? (i := 765) (by decide +kernel)⟩
theorem lw_p36 : lw_okq (⟨"ClassShapeModel", "run", "()I"⟩, 33) := ⟨⟨by decide +kernel, by decide +kernel⟩, List.mem_of_getElem? (i := 638) (by decide +kernel), List.mem_of_getElem? (i := 780) (by decide +kernel), List.mem_of_getElem? (i := 781) (by decide +kernel)⟩
theorem lw_p37 : lw_okq (⟨"ClassShapeModel", "header", "()V"⟩, 33) := ⟨⟨by decide +kernel, by decide +kernel⟩, List.mem_of_getElem? (i := 638) (by decide +kernel), List.mem_of_getElem? (i := 784) (by decide +kernel), List.mem_of_getElem? (i := 785) (by decide +kernel)⟩
theorem lw_p38 : lw_okq (⟨"ClassShapeModel", "u", "(I)J"⟩, 33) := ⟨⟨by decide +kernel, by decide +kernel⟩, List.mem_of_getElem? (i := 638) (by decide +kernel), List.mem_of_getElem? (i := 788) (by decide +kernel), List.mem_of_getElem? (i := 789) (by decide +kernel)⟩
theorem lw_p39 : lw_okq (⟨"ClassShapeModel", "fail", "(II)Z"⟩, 33) := ⟨⟨by decide +kernel, by decide +kernel⟩, List.mem_of_getElem? (i := 638) (by decide +kernel), List.mem_of_getElem? (i := 792) (by decide +kernel), List.mem_of_getElem? (i := 793) (by decide +kernel)⟩
theorem lw_p40 : lw_okq (⟨"ClassShapeModel", "u2", "()I"⟩, 33) := ⟨⟨by decide +kernel, by decide +kernel⟩, List.mem_of_getElem? (i := 638) (by decide +kernel), List.mem_of_getElem? (i := 798) (by decide +kernel), List.mem_of_getElem? (i := 799) (by decide +kernel)⟩
theorem lw_p41 : lw_okq (⟨"ClassShapeModel", "readPool", "()V"⟩, 33) := ⟨⟨by decide +kernel, by decide +kernel⟩, List.mem_of_getElem? (i := 638) (by decide +kernel), List.mem_of_getElem? (i := 802) (by decide +kernel), List.mem_of_getElem? (i := 803) (by decide +kernel)⟩
theorem lw_p42 : lw_okq (⟨"ClassShapeModel", "entry", "(II)I"⟩, 33) := ⟨⟨by decide +kernel, by decide +kernel⟩, List.mem_of_getElem? (i := 638) (by decide +kernel), List.mem_of_getElem? (i := 806) (by decide +kernel), List.mem_of_getElem? (i := 807) (by decide +kernel)⟩
theorem lw_p43 : lw_okq (⟨"ClassShapeModel", "u1", "()I"⟩, 33) := ⟨⟨by decide +kernel, by decide +kernel⟩, List.mem_of_getElem? (i := 638) (by decide +kernel), List.mem_of_getElem? (i := 810) (by decide +kernel), List.mem_of_getElem? (i := 811) (by decide +kernel)⟩
theorem lw_p44 : lw_okq (⟨"ClassShapeModel", "skip", "(J)V"⟩, 33) := ⟨⟨by decide +kernel, by decide +kernel⟩, List.mem_of_getElem? (i := 638) (by decide +kernel), List.mem_of_getElem? (i := 814) (by decide +kernel), List.mem_of_getElem? (i := 815) (by decide +kernel)⟩
theorem lw_p45 : lw_okq (⟨"ClassShapeModel", "characters", "(II)V"⟩, 33) := ⟨⟨by decide +kernel, by decide +kernel⟩, List.mem_of_getElem? (i := 638) (by decide +kernel), List.mem_of_getElem? (i := 818) (by decide +kernel), List.mem_of_getElem? (i := 819) (by decide +kernel)⟩
theorem lw_p46 : lw_okq (⟨"ClassShapeModel", "checkPool", "()V"⟩, 33) := ⟨⟨by decide +kernel, by decide +kernel⟩, List.mem_of_getElem? (i := 638) (by decide +kernel), List.mem_of_getElem? (i := 822) (by decide +kernel), List.mem_of_getElem? (i := 823) (by decide +kernel)⟩
theorem lw_p47 : lw_okq (⟨"ClassShapeModel", "names", "(I)Z"⟩, 33) := ⟨⟨by decide +kernel, by decide +kernel⟩, List.mem_of_getElem? (i := 638) (by decide +kernel), List.mem_of_getElem? (i := 826) (by decide +kernel), List.mem_of_getElem? (i := 827) (by decide +kernel)⟩
def lw_privs_3 : List (MethodName × Nat) := [(⟨"ClassShape$Code", "handlerFits", "(I)Z"⟩, 10), (⟨"ClassShape", "rulesFound", "()I"⟩, 5), (⟨"ClassShapeModel", "missing", "(II)Z"⟩, 33), (⟨"ClassShapeModel", "take", "(II)V"⟩, 33), (⟨"ClassShapeModel", "run", "()I"⟩, 33), (⟨"ClassShapeModel", "header", "()V"⟩, 33), (⟨"ClassShapeModel", "u", "(I)J"⟩, 33), (⟨"ClassShapeModel", "fail", "(II)Z"⟩, 33), (⟨"ClassShapeModel", "u2", "()I"⟩, 33), (⟨"ClassShapeModel", "readPool", "()V"⟩, 33), (⟨"ClassShapeModel", "entry", "(II)I"⟩, 33), (⟨"ClassShapeModel", "u1", "()I"⟩, 33), (⟨"ClassShapeModel", "skip", "(J)V"⟩, 33), (⟨"ClassShapeModel", "characters", "(II)V"⟩, 33), (⟨"ClassShapeModel", "checkPool", "()V"⟩, 33), (⟨"ClassShapeModel", "names", "(I)Z"⟩, 33)]
theorem lw_r3 : ∀ q ∈ lw_privs_3, lw_okq q := List.forall_mem_cons.mpr ⟨lw_p32, List.forall_mem_cons.mpr ⟨lw_p33, List.forall_mem_cons.mpr ⟨lw_p34, List.forall_mem_cons.mpr ⟨lw_p35, List.forall_mem_cons.mpr ⟨lw_p36, List.forall_mem_cons.mpr ⟨lw_p37, List.forall_mem_cons.mpr ⟨lw_p38, List.forall_mem_cons.mpr ⟨lw_p39, List.forall_mem_cons.mpr ⟨lw_p40, List.forall_mem_cons.mpr ⟨lw_p41, List.forall_mem_cons.mpr ⟨lw_p42, List.forall_mem_cons.mpr ⟨lw_p43, List.forall_mem_cons.mpr ⟨lw_p44, List.forall_mem_cons.mpr ⟨lw_p45, List.forall_mem_cons.mpr ⟨lw_p46, List.forall_mem_cons.mpr ⟨lw_p47, fun _ h => absurd h List.not_mem_nil⟩⟩⟩⟩⟩⟩⟩⟩⟩⟩⟩⟩⟩⟩⟩⟩
theorem lw_p48 : lw_okq (⟨"ClassShapeModel", "is", "(II)Z"⟩, 33) := ⟨⟨by decide +kernel, by decide +kernel⟩, List.mem_of_getElem? (i := 638) (by decide +kernel), List.mem_of_getElem? (i := 830) (by decide +kernel), List.mem_of_getElem? (i := 831) (by decide +kernel)⟩
theorem lw_p49 : lw_okq (⟨"ClassShapeModel", "className", "(III)Z"⟩, 33) := ⟨⟨by decide +kernel, by decide +kernel⟩, List.mem_of_getElem? (i := 638) (by decide +kernel), List.mem_of_getElem? (i := 834) (by decide +kernel), List.mem_of_getElem? (i := 835) (by decide +kernel)⟩
theorem lw_p50 : lw_okq (⟨"ClassShapeModel", "letter", "(II)I"⟩, 33) := ⟨⟨by decide +kernel, by decide +kernel⟩, List.mem_of_getElem? (i := 638) (by decide +kernel), List.mem_of_getElem? (i := 838) (by decide +kernel), List.mem_of_getElem? (i := 839) (by decide +kernel)⟩
theorem lw_p51 : lw_okq (⟨"ClassShapeModel", "memberName", "(I)Z"⟩, 33) := ⟨⟨by decide +kernel, by decide +kernel⟩, List.mem_of_getElem? (i := 638) (by decide +kernel), List.mem_of_getElem? (i := 842) (by decide +kernel), List.mem_of_getElem? (i := 843) (by decide +kernel)⟩
theorem lw_p52 : lw_okq (⟨"ClassShapeModel", "spells", "(I[I)Z"⟩, 33) := ⟨⟨by decide +kernel, by decide +kernel⟩, List.mem_of_getElem? (i := 638) (by decide +kernel), List.mem_of_getElem? (i := 846) (by decide +kernel), List.mem_of_getElem? (i := 847) (by decide +kernel)⟩
theorem lw_p53 : lw_okq (⟨"ClassShapeModel", "fieldName", "(I)Z"⟩, 33) := ⟨⟨by decide +kernel, by decide +kernel⟩, List.mem_of_getElem? (i := 638) (by decide +kernel), List.mem_of_getElem? (i := 850) (by decide +kernel), List.mem_of_getElem? (i := 851) (by decide +kernel)⟩
theorem lw_p54 : lw_okq (⟨"ClassShapeModel", "methodType", "(I)Z"⟩, 33) := ⟨⟨by decide +kernel, by decide +kernel⟩, List.mem_of_getElem? (i := 638) (by decide +kernel), List.mem_of_getElem? (i := 854) (by decide +kernel), List.mem_of_getElem? (i := 855) (by decide +kernel)⟩
theorem lw_p55 : lw_okq (⟨"ClassShapeModel", "typeEnd", "(II)I"⟩, 33) := ⟨⟨by decide +kernel, by decide +kernel⟩, List.mem_of_getElem? (i := 638) (by decide +kernel), List.mem_of_getElem? (i := 858) (by decide +kernel), List.mem_of_getElem? (i := 859) (by decide +kernel)⟩
theorem lw_p56 : lw_okq (⟨"ClassShapeModel", "brackets", "(II)I"⟩, 33) := ⟨⟨by decide +kernel, by decide +kernel⟩, List.mem_of_getElem? (i := 638) (by decide +kernel), List.mem_of_getElem? (i := 862) (by decide +kernel), List.mem_of_getElem? (i := 863) (by decide +kernel)⟩
theorem lw_p57 : lw_okq (⟨"ClassShapeModel", "top", "()V"⟩, 33) := ⟨⟨by decide +kernel, by decide +kernel⟩, List.mem_of_getElem? (i := 638) (by decide +kernel), List.mem_of_getElem? (i := 869) (by decide +kernel), List.mem_of_getElem? (i := 870) (by decide +kernel)⟩
theorem lw_p58 : lw_okq (⟨"ClassShapeModel", "classAt", "()V"⟩, 33) := ⟨⟨by decide +kernel, by decide +kernel⟩, List.mem_of_getElem? (i := 638) (by decide +kernel), List.mem_of_getElem? (i := 873) (by decide +kernel), List.mem_of_getElem? (i := 874) (by decide +kernel)⟩
theorem lw_p59 : lw_okq (⟨"ClassShapeModel", "interfaces", "()V"⟩, 33) := ⟨⟨by decide +kernel, by decide +kernel⟩, List.mem_of_getElem? (i := 638) (by decide +kernel), List.mem_of_getElem? (i := 877) (by decide +kernel), List.mem_of_getElem? (i := 878) (by decide +kernel)⟩
theorem lw_p60 : lw_okq (⟨"ClassShapeModel", "fields", "()V"⟩, 33) := ⟨⟨by decide +kernel, by decide +kernel⟩, List.mem_of_getElem? (i := 638) (by decide +kernel), List.mem_of_getElem? (i := 881) (by decide +kernel), List.mem_of_getElem? (i := 882) (by decide +kernel)⟩
theorem lw_p61 : lw_okq (⟨"ClassShapeModel", "member", "(IZ)I"⟩, 33) := ⟨⟨by decide +kernel, by decide +kernel⟩, List.mem_of_getElem? (i := 638) (by decide +kernel), List.mem_of_getElem? (i := 885) (by decide +kernel), List.mem_of_getElem? (i := 886) (by decide +kernel)⟩
theorem lw_p62 : lw_okq (⟨"ClassShapeModel", "fieldType", "(I)Z"⟩, 33) := ⟨⟨by decide +kernel, by decide +kernel⟩, List.mem_of_getElem? (i := 638) (by decide +kernel), List.mem_of_getElem? (i := 892) (by decide +kernel), List.mem_of_getElem? (i := 893) (by decide +kernel)⟩
theorem lw_p63 : lw_okq (⟨"ClassShapeModel", "equal", "(II)Z"⟩, 33) := ⟨⟨by decide +kernel, by decide +kernel⟩, List.mem_of_getElem? (i := 638) (by decide +kernel), List.mem_of_getElem? (i := 896) (by decide +kernel), List.mem_of_getElem? (i := 897) (by decide +kernel)⟩
def lw_privs_4 : List (MethodName × Nat) := [(⟨"ClassShapeModel", "is", "(II)Z"⟩, 33), (⟨"ClassShapeModel", "className", "(III)Z"⟩, 33), (⟨"ClassShapeModel", "letter", "(II)I"⟩, 33), (⟨"ClassShapeModel", "memberName", "(I)Z"⟩, 33), (⟨"ClassShapeModel", "spells", "(I[I)Z"⟩, 33), (⟨"ClassShapeModel", "fieldName", "(I)Z"⟩, 33), (⟨"ClassShapeModel", "methodType", "(I)Z"⟩, 33), (⟨"ClassShapeModel", "typeEnd", "(II)I"⟩, 33), (⟨"ClassShapeModel", "brackets", "(II)I"⟩, 33), (⟨"ClassShapeModel", "top", "()V"⟩, 33), (⟨"ClassShapeModel", "classAt", "()V"⟩, 33), (⟨"ClassShapeModel", "interfaces", "()V"⟩, 33), (⟨"ClassShapeModel", "fields", "()V"⟩, 33), (⟨"ClassShapeModel", "member", "(IZ)I"⟩, 33), (⟨"ClassShapeModel", "fieldType", "(I)Z"⟩, 33), (⟨"ClassShapeModel", "equal", "(II)Z"⟩, 33)]
theorem lw_r4 : ∀ q ∈ lw_privs_4, lw_okq q := List.forall_mem_cons.mpr ⟨lw_p48, List.forall_mem_cons.mpr ⟨lw_p49, List.forall_mem_cons.mpr ⟨lw_p50, List.forall_mem_cons.mpr ⟨lw_p51, List.forall_mem_cons.mpr ⟨lw_p52, List.forall_mem_cons.mpr ⟨lw_p53, List.forall_mem_cons.mpr ⟨lw_p54, List.forall_mem_cons.mpr ⟨lw_p55, List.forall_mem_cons.mpr ⟨lw_p56, List.forall_mem_cons.mpr ⟨lw_p57, List.forall_mem_cons.mpr ⟨lw_p58, List.forall_mem_cons.mpr ⟨lw_p59, List.forall_mem_cons.mpr ⟨lw_p60, List.forall_mem_cons.mpr ⟨lw_p61, List.forall_mem_cons.mpr ⟨lw_p62, List.forall_mem_cons.mpr ⟨lw_p63, fun _ h => absurd h List.not_mem_nil⟩⟩⟩⟩⟩⟩⟩⟩⟩⟩⟩⟩⟩⟩⟩⟩
theorem lw_p64 : lw_okq (⟨"ClassShapeModel", "fieldAttributes", "(I)V"⟩, 33) := ⟨⟨by decide +kernel, by decide +kernel⟩, List.mem_of_getElem? (i := 638) (by decide +kernel), List.mem_of_getElem? (i := 900) (by decide +kernel), List.mem_of_getElem? (i := 901) (by decide +kernel)⟩
theorem lw_p65 : lw_okq (⟨"ClassShapeModel", "textAt", "()I"⟩, 33) := ⟨⟨by decide +kernel, by decide +kernel⟩, List.mem_of_getElem? (i := 638) (by decide +kernel), List.mem_of_getElem? (i := 904) (by decide +kernel), List.mem_of_getElem? (i := 905) (by decide +kernel)⟩
theorem lw_p66 : lw_okq (⟨"ClassShapeModel", "lengthAt", "()J"⟩, 33) := ⟨⟨by decide +kernel, by decide +kernel⟩, List.mem_of_getElem? (i := 638) (by decide +kernel), List.mem_of_getElem? (i := 908) (by decide +kernel), List.mem_of_getElem? (i := 909) (by decide +kernel)⟩
theorem lw_p67 : lw_okq (⟨"ClassShapeModel", "constantFits", "(II)Z"⟩, 33) := ⟨⟨by decide +kernel, by decide +kernel⟩, List.mem_of_getElem? (i := 638) (by decide +kernel), List.mem_of_getElem? (i := 914) (by decide +kernel), List.mem_of_getElem? (i := 915) (by decide +kernel)⟩
theorem lw_p68 : lw_okq (⟨"ClassShapeModel", "methods", "()V"⟩, 33) := ⟨⟨by decide +kernel, by decide +kernel⟩, List.mem_of_getElem? (i := 638) (by decide +kernel), List.mem_of_getElem? (i := 918) (by decide +kernel), List.mem_of_getElem? (i := 919) (by decide +kernel)⟩
theorem lw_p69 : lw_okq (⟨"ClassShapeModel", "methodAttributes", "()Z"⟩, 33) := ⟨⟨by decide +kernel, by decide +kernel⟩, List.mem_of_getElem? (i := 638) (by decide +kernel), List.mem_of_getElem? (i := 922) (by decide +kernel), List.mem_of_getElem? (i := 923) (by decide +kernel)⟩
theorem lw_p70 : lw_okq (⟨"ClassShapeModel", "readCode", "(III)V"⟩, 33) := ⟨⟨by decide +kernel, by decide +kernel⟩, List.mem_of_getElem? (i := 638) (by decide +kernel), List.mem_of_getElem? (i := 926) (by decide +kernel), List.mem_of_getElem? (i := 927) (by decide +kernel)⟩
theorem lw_p71 : lw_okq (⟨"ClassShapeModel", "attributes", "()V"⟩, 33) := ⟨⟨by decide +kernel, by decide +kernel⟩, List.mem_of_getElem? (i := 638) (by decide +kernel), List.mem_of_getElem? (i := 932) (by decide +kernel), List.mem_of_getElem? (i := 933) (by decide +kernel)⟩
theorem lw_p72 : lw_okq (⟨"ClassShapeModel", "judgeCode", "()V"⟩, 33) := ⟨⟨by decide +kernel, by decide +kernel⟩, List.mem_of_getElem? (i := 638) (by decide +kernel), List.mem_of_getElem? (i := 936) (by decide +kernel), List.mem_of_getElem? (i := 937) (by decide +kernel)⟩
theorem lw_p73 : lw_okq (⟨"ClassShapeModel", "walk", "()V"⟩, 33) := ⟨⟨by decide +kernel, by decide +kernel⟩, List.mem_of_getElem? (i := 638) (by decide +kernel), List.mem_of_getElem? (i := 940) (by decide +kernel), List.mem_of_getElem? (i := 941) (by decide +kernel)⟩
theorem lw_p74 : lw_okq (⟨"ClassShapeModel", "size", "(I)I"⟩, 33) := ⟨⟨by decide +kernel, by decide +kernel⟩, List.mem_of_getElem? (i := 638) (by decide +kernel), List.mem_of_getElem? (i := 944) (by decide +kernel), List.mem_of_getElem? (i := 945) (by decide +kernel)⟩
theorem lw_p75 : lw_okq (⟨"ClassShapeModel", "byteAt", "(I)I"⟩, 33) := ⟨⟨by decide +kernel, by decide +kernel⟩, List.mem_of_getElem? (i := 638) (by decide +kernel), List.mem_of_getElem? (i := 948) (by decide +kernel), List.mem_of_getElem? (i := 949) (by decide +kernel)⟩
theorem lw_p76 : lw_okq (⟨"ClassShapeModel", "wordAt", "(I)I"⟩, 33) := ⟨⟨by decide +kernel, by decide +kernel⟩, List.mem_of_getElem? (i := 638) (by decide +kernel), List.mem_of_getElem? (i := 955) (by decide +kernel), List.mem_of_getElem? (i := 956) (by decide +kernel)⟩
theorem lw_p77 : lw_okq (⟨"ClassShapeModel", "shortAt", "(I)I"⟩, 33) := ⟨⟨by decide +kernel, by decide +kernel⟩, List.mem_of_getElem? (i := 638) (by decide +kernel), List.mem_of_getElem? (i := 959) (by decide +kernel), List.mem_of_getElem? (i := 960) (by decide +kernel)⟩
theorem lw_p78 : lw_okq (⟨"ClassShapeModel", "operandFits", "(I)Z"⟩, 33) := ⟨⟨by decide +kernel, by decide +kernel⟩, List.mem_of_getElem? (i := 638) (by decide +kernel), List.mem_of_getElem? (i := 964) (by decide +kernel), List.mem_of_getElem? (i := 965) (by decide +kernel)⟩
theorem lw_p79 : lw_okq (⟨"ClassShapeModel", "jumpsFit", "(I)Z"⟩, 33) := ⟨⟨by decide +kernel, by decide +kernel⟩, List.mem_of_getElem? (i := 638) (by decide +kernel), List.mem_of_getElem? (i := 968) (by decide +kernel), List.mem_of_getElem? (i := 969) (by decide +kernel)⟩
def lw_privs_5 : List (MethodName × Nat) := [(⟨"ClassShapeModel", "fieldAttributes", "(I)V"⟩, 33), (⟨"ClassShapeModel", "textAt", "()I"⟩, 33), (⟨"ClassShapeModel", "lengthAt", "()J"⟩, 33), (⟨"ClassShapeModel", "constantFits", "(II)Z"⟩, 33), (⟨"ClassShapeModel", "methods", "()V"⟩, 33), (⟨"ClassShapeModel", "methodAttributes", "()Z"⟩, 33), (⟨"ClassShapeModel", "readCode", "(III)V"⟩, 33), (⟨"ClassShapeModel", "attributes", "()V"⟩, 33), (⟨"ClassShapeModel", "judgeCode", "()V"⟩, 33), (⟨"ClassShapeModel", "walk", "()V"⟩, 33), (⟨"ClassShapeModel", "size", "(I)I"⟩, 33), (⟨"ClassShapeModel", "byteAt", "(I)I"⟩, 33), (⟨"ClassShapeModel", "wordAt", "(I)I"⟩, 33), (⟨"ClassShapeModel", "shortAt", "(I)I"⟩, 33), (⟨"ClassShapeModel", "operandFits", "(I)Z"⟩, 33), (⟨"ClassShapeModel", "jumpsFit", "(I)Z"⟩, 33)]
theorem lw_r5 : ∀ q ∈ lw_privs_5, lw_okq q := List.forall_mem_cons.mpr ⟨lw_p64, List.forall_mem_cons.mpr ⟨lw_p65, List.forall_mem_cons.mpr ⟨lw_p66, List.forall_mem_cons.mpr ⟨lw_p67, List.forall_mem_cons.mpr ⟨lw_p68, List.forall_mem_cons.mpr ⟨lw_p69, List.forall_mem_cons.mpr ⟨lw_p70, List.forall_mem_cons.mpr ⟨lw_p71, List.forall_mem_cons.mpr ⟨lw_p72, List.forall_mem_cons.mpr ⟨lw_p73, List.forall_mem_cons.mpr ⟨lw_p74, List.forall_mem_cons.mpr ⟨lw_p75, List.forall_mem_cons.mpr ⟨lw_p76, List.forall_mem_cons.mpr ⟨lw_p77, List.forall_mem_cons.mpr ⟨lw_p78, List.forall_mem_cons.mpr ⟨lw_p79, fun _ h => absurd h List.not_mem_nil⟩⟩⟩⟩⟩⟩⟩⟩⟩⟩⟩⟩⟩⟩⟩⟩
theorem lw_p80 : lw_okq (⟨"ClassShapeModel", "isStart", "(J)Z"⟩, 33) := ⟨⟨by decide +kernel, by decide +kernel⟩, List.mem_of_getElem? (i := 638) (by decide +kernel), List.mem_of_getElem? (i := 972) (by decide +kernel), List.mem_of_getElem? (i := 973) (by decide +kernel)⟩
theorem lw_p81 : lw_okq (⟨"ClassShapeModel", "handlerFits", "(I)Z"⟩, 33) := ⟨⟨by decide +kernel, by decide +kernel⟩, List.mem_of_getElem? (i := 638) (by decide +kernel), List.mem_of_getElem? (i := 976) (by decide +kernel), List.mem_of_getElem? (i := 977) (by decide +kernel)⟩
theorem lw_p82 : lw_okq (⟨"ClassShapeModel", "without", "(III)Z"⟩, 33) := ⟨⟨by decide +kernel, by decide +kernel⟩, List.mem_of_getElem? (i := 638) (by decide +kernel), List.mem_of_getElem? (i := 988) (by decide +kernel), List.mem_of_getElem? (i := 989) (by decide +kernel)⟩
def lw_privs_6 : List (MethodName × Nat) := [(⟨"ClassShapeModel", "isStart", "(J)Z"⟩, 33), (⟨"ClassShapeModel", "handlerFits", "(I)Z"⟩, 33), (⟨"ClassShapeModel", "without", "(III)Z"⟩, 33)]
theorem lw_r6 : ∀ q ∈ lw_privs_6, lw_okq q := List.forall_mem_cons.mpr ⟨lw_p80, List.forall_mem_cons.mpr ⟨lw_p81, List.forall_mem_cons.mpr ⟨lw_p82, fun _ h => absurd h List.not_mem_nil⟩⟩⟩
def lw_privs : List (MethodName × Nat) := lw_privs_1 ++ (lw_privs_2 ++ (lw_privs_3 ++ (lw_privs_4 ++ (lw_privs_5 ++ (lw_privs_6)))))
def lw_tbl : List Cond := k2_sels lw_privs ++ tables_1
theorem lw_privs_ok : ∀ q ∈ lw_privs, lw_okq q := by
  show ∀ q ∈ lw_privs_1 ++ (lw_privs_2 ++ (lw_privs_3 ++ (lw_privs_4 ++ (lw_privs_5 ++ (lw_privs_6))))), lw_okq q
  exact List.forall_mem_append.mpr ⟨lw_r1, List.forall_mem_append.mpr ⟨lw_r2, List.forall_mem_append.mpr ⟨lw_r3, List.forall_mem_append.mpr ⟨lw_r4, List.forall_mem_append.mpr ⟨lw_r5, lw_r6⟩⟩⟩⟩⟩

def RX0 : String := "ClassShape$Code"
def RX1 : String := "ClassShape$FileBytes"
def RX2 : String := "ClassShape$Judging"
def RX3 : String := "ClassShape$Names"
def RX4 : String := "ClassShape$Pool"
def RX5 : String := "ClassShape$Reader"
def RX6 : String := "ClassShape"
def RX7 : String := "ClassShapeModel"
def RX8 : String := "java/lang/Integer"
def RX9 : String := "java/lang/Math"
def TX0 : u_T := fun k => match k with
  | 0 => ("ClassShape$Code", "file", "LClassShape$FileBytes;", true)
  | 1 => ("ClassShape$Code", "reader", "LClassShape$Reader;", true)
  | 2 => ("ClassShape$Code", "pool", "LClassShape$Pool;", true)
  | 3 => ("ClassShape$Code", "begins", "[Z", true)
  | 4 => ("ClassShape$Code", "ops", "[I", true)
  | 5 => ("ClassShape$Code", "base", "I", false)
  | 6 => ("ClassShape$Code", "length", "I", false)
  | 7 => ("ClassShape$Code", "locals", "I", false)
  | 8 => ("ClassShape$Code", "instructions", "I", false)
  | _ => ("ClassShape$Code", "handlers", "I", false)
def tyX0 : Nat → FieldType := fun k => match k with
  | 0 => .object "ClassShape$FileBytes"
  | 1 => .object "ClassShape$Reader"
  | 2 => .object "ClassShape$Pool"
  | 3 => .array .boolean
  | 4 => .array .int
  | 5 => .int
  | 6 => .int
  | 7 => .int
  | 8 => .int
  | _ => .int
theorem nk_X0 : ∀ a, a < 10 → ∀ b, b < 10 → a ≠ b → (TX0 a).2.1 ≠ (TX0 b).2.1 := by decide +kernel
theorem tk_X0 : ∀ k, k < 10 → parseFieldDescriptor (TX0 k).2.2.1 = some (tyX0 k) := by decide +kernel
abbrev cX0_init : ByteArray := prog_2_method_1_code
def yX0_init : MethodName := ⟨RX0, "<init>", "(LClassShape$Reader;LClassShape$Pool;)V"⟩
abbrev cX0_lookAt : ByteArray := prog_2_method_2_code
def yX0_lookAt : MethodName := ⟨RX0, "lookAt", "(I)V"⟩
abbrev cX0_judgeInstructions : ByteArray := prog_2_method_3_code
def yX0_judgeInstructions : MethodName := ⟨RX0, "judgeInstructions", "()Z"⟩
abbrev cX0_judgeJumps : ByteArray := prog_2_method_4_code
def yX0_judgeJumps : MethodName := ⟨RX0, "judgeJumps", "()Z"⟩
abbrev cX0_judgeLast : ByteArray := prog_2_method_5_code
def yX0_judgeLast : MethodName := ⟨RX0, "judgeLast", "()Z"⟩
abbrev cX0_judgeHandlers : ByteArray := prog_2_method_6_code
def yX0_judgeHandlers : MethodName := ⟨RX0, "judgeHandlers", "()Z"⟩
abbrev cX0_sizeOf : ByteArray := prog_2_method_7_code
def yX0_sizeOf : MethodName := ⟨RX0, "sizeOf", "(I)I"⟩
abbrev cX0_wideSize : ByteArray := prog_2_method_8_code
def yX0_wideSize : MethodName := ⟨RX0, "wideSize", "(I)I"⟩
abbrev cX0_tableSize : ByteArray := prog_2_method_9_code
def yX0_tableSize : MethodName := ⟨RX0, "tableSize", "(I)I"⟩
abbrev cX0_tableOf : ByteArray := prog_2_method_10_code
def yX0_tableOf : MethodName := ⟨RX0, "tableOf", "(I)I"⟩
abbrev cX0_operandsFit : ByteArray := prog_2_method_11_code
def yX0_operandsFit : MethodName := ⟨RX0, "operandsFit", "(I)Z"⟩
abbrev cX0_jumpsFit : ByteArray := prog_2_method_12_code
def yX0_jumpsFit : MethodName := ⟨RX0, "jumpsFit", "(I)Z"⟩
abbrev cX0_tableFits : ByteArray := prog_2_method_13_code
def yX0_tableFits : MethodName := ⟨RX0, "tableFits", "(I)Z"⟩
abbrev cX0_handlerFits : ByteArray := prog_2_method_14_code
def yX0_handlerFits : MethodName := ⟨RX0, "handlerFits", "(I)Z"⟩
abbrev cX0_isInstruction : ByteArray := prog_2_method_15_code
def yX0_isInstruction : MethodName := ⟨RX0, "isInstruction", "(J)Z"⟩
def TX1 : u_T := fun k => match k with
  | 0 => ("ClassShape$FileBytes", "cells", "[I", true)
  | _ => ("ClassShape$FileBytes", "length", "I", false)
def tyX1 : Nat → FieldType := fun k => match k with
  | 0 => .array .int
  | _ => .int
theorem nk_X1 : ∀ a, a < 2 → ∀ b, b < 2 → a ≠ b → (TX1 a).2.1 ≠ (TX1 b).2.1 := by decide +kernel
theorem tk_X1 : ∀ k, k < 2 → parseFieldDescriptor (TX1 k).2.2.1 = some (tyX1 k) := by decide +kernel
abbrev cX1_init : ByteArray := prog_3_method_1_code
def yX1_init : MethodName := ⟨RX1, "<init>", "()V"⟩
abbrev cX1_holds : ByteArray := prog_3_method_2_code
def yX1_holds : MethodName := ⟨RX1, "holds", "(II)Z"⟩
abbrev cX1_hasRoomFor : ByteArray := prog_3_method_3_code
def yX1_hasRoomFor : MethodName := ⟨RX1, "hasRoomFor", "(I)Z"⟩
abbrev cX1_append : ByteArray := prog_3_method_4_code
def yX1_append : MethodName := ⟨RX1, "append", "(II)V"⟩
abbrev cX1_close : ByteArray := prog_3_method_5_code
def yX1_close : MethodName := ⟨RX1, "close", "(II)V"⟩
abbrev cX1_open : ByteArray := prog_3_method_6_code
def yX1_open : MethodName := ⟨RX1, "open", "(II)V"⟩
abbrev cX1_u2 : ByteArray := prog_3_method_7_code
def yX1_u2 : MethodName := ⟨RX1, "u2", "(I)I"⟩
abbrev cX1_u4 : ByteArray := prog_3_method_8_code
def yX1_u4 : MethodName := ⟨RX1, "u4", "(I)I"⟩
def TX2 : u_T := fun k => match k with
  | 0 => ("ClassShape$Judging", "reader", "LClassShape$Reader;", true)
  | 1 => ("ClassShape$Judging", "tally", "[I", true)
  | 2 => ("ClassShape$Judging", "file", "LClassShape$FileBytes;", true)
  | 3 => ("ClassShape$Judging", "pool", "LClassShape$Pool;", true)
  | 4 => ("ClassShape$Judging", "code", "LClassShape$Code;", true)
  | 5 => ("ClassShape$Judging", "members", "[I", true)
  | _ => ("ClassShape$Judging", "hasCode", "Z", false)
def tyX2 : Nat → FieldType := fun k => match k with
  | 0 => .object "ClassShape$Reader"
  | 1 => .array .int
  | 2 => .object "ClassShape$FileBytes"
  | 3 => .object "ClassShape$Pool"
  | 4 => .object "ClassShape$Code"
  | 5 => .array .int
  | _ => .boolean
theorem nk_X2 : ∀ a, a < 7 → ∀ b, b < 7 → a ≠ b → (TX2 a).2.1 ≠ (TX2 b).2.1 := by decide +kernel
theorem tk_X2 : ∀ k, k < 7 → parseFieldDescriptor (TX2 k).2.2.1 = some (tyX2 k) := by decide +kernel
abbrev cX2_init : ByteArray := prog_4_method_1_code
def yX2_init : MethodName := ⟨RX2, "<init>", "(LClassShape$FileBytes;)V"⟩
abbrev cX2_run : ByteArray := prog_4_method_2_code
def yX2_run : MethodName := ⟨RX2, "run", "()I"⟩
abbrev cX2_readHead : ByteArray := prog_4_method_3_code
def yX2_readHead : MethodName := ⟨RX2, "readHead", "()Z"⟩
abbrev cX2_readClass : ByteArray := prog_4_method_4_code
def yX2_readClass : MethodName := ⟨RX2, "readClass", "()Z"⟩
abbrev cX2_classFlagsFit : ByteArray := prog_4_method_5_code
def yX2_classFlagsFit : MethodName := ⟨RX2, "classFlagsFit", "(I)Z"⟩
abbrev cX2_readClassNumber : ByteArray := prog_4_method_6_code
def yX2_readClassNumber : MethodName := ⟨RX2, "readClassNumber", "()Z"⟩
abbrev cX2_readInterfaces : ByteArray := prog_4_method_7_code
def yX2_readInterfaces : MethodName := ⟨RX2, "readInterfaces", "()Z"⟩
abbrev cX2_readNumber : ByteArray := prog_4_method_8_code
def yX2_readNumber : MethodName := ⟨RX2, "readNumber", "()I"⟩
abbrev cX2_readFields : ByteArray := prog_4_method_9_code
def yX2_readFields : MethodName := ⟨RX2, "readFields", "()Z"⟩
abbrev cX2_readMemberHead : ByteArray := prog_4_method_10_code
def yX2_readMemberHead : MethodName := ⟨RX2, "readMemberHead", "(IZ)Z"⟩
abbrev cX2_countBrackets : ByteArray := prog_4_method_11_code
def yX2_countBrackets : MethodName := ⟨RX2, "countBrackets", "(I)V"⟩
abbrev cX2_fieldFlagsFit : ByteArray := prog_4_method_12_code
def yX2_fieldFlagsFit : MethodName := ⟨RX2, "fieldFlagsFit", "(I)Z"⟩
abbrev cX2_methodFlagsFit : ByteArray := prog_4_method_13_code
def yX2_methodFlagsFit : MethodName := ⟨RX2, "methodFlagsFit", "(I)Z"⟩
abbrev cX2_hasAtMostOneAccess : ByteArray := prog_4_method_14_code
def yX2_hasAtMostOneAccess : MethodName := ⟨RX2, "hasAtMostOneAccess", "(I)Z"⟩
abbrev cX2_addMember : ByteArray := prog_4_method_15_code
def yX2_addMember : MethodName := ⟨RX2, "addMember", "(II)Z"⟩
abbrev cX2_readFieldAttribute : ByteArray := prog_4_method_16_code
def yX2_readFieldAttribute : MethodName := ⟨RX2, "readFieldAttribute", "(I)Z"⟩
abbrev cX2_constantFits : ByteArray := prog_4_method_17_code
def yX2_constantFits : MethodName := ⟨RX2, "constantFits", "(II)Z"⟩
abbrev cX2_readMethods : ByteArray := prog_4_method_18_code
def yX2_readMethods : MethodName := ⟨RX2, "readMethods", "()Z"⟩
abbrev cX2_readMethodAttribute : ByteArray := prog_4_method_19_code
def yX2_readMethodAttribute : MethodName := ⟨RX2, "readMethodAttribute", "()Z"⟩
abbrev cX2_readCode : ByteArray := prog_4_method_20_code
def yX2_readCode : MethodName := ⟨RX2, "readCode", "(I)Z"⟩
abbrev cX2_stepInstructions : ByteArray := prog_4_method_21_code
def yX2_stepInstructions : MethodName := ⟨RX2, "stepInstructions", "(I)Z"⟩
abbrev cX2_passAttributes : ByteArray := prog_4_method_22_code
def yX2_passAttributes : MethodName := ⟨RX2, "passAttributes", "()Z"⟩
abbrev cX2_readAttributeName : ByteArray := prog_4_method_23_code
def yX2_readAttributeName : MethodName := ⟨RX2, "readAttributeName", "()Z"⟩
abbrev cX2_stepAttributeBytes : ByteArray := prog_4_method_24_code
def yX2_stepAttributeBytes : MethodName := ⟨RX2, "stepAttributeBytes", "()Z"⟩
abbrev cX3_isFieldName : ByteArray := prog_5_method_2_code
def yX3_isFieldName : MethodName := ⟨RX3, "isFieldName", "([III)Z"⟩
abbrev cX3_isMemberName : ByteArray := prog_5_method_3_code
def yX3_isMemberName : MethodName := ⟨RX3, "isMemberName", "([III)Z"⟩
abbrev cX3_isClassName : ByteArray := prog_5_method_4_code
def yX3_isClassName : MethodName := ⟨RX3, "isClassName", "([III)Z"⟩
abbrev cX3_isFieldType : ByteArray := prog_5_method_5_code
def yX3_isFieldType : MethodName := ⟨RX3, "isFieldType", "([III)Z"⟩
abbrev cX3_isMethodType : ByteArray := prog_5_method_6_code
def yX3_isMethodType : MethodName := ⟨RX3, "isMethodType", "([III)Z"⟩
abbrev cX3_fieldTypeEnd : ByteArray := prog_5_method_7_code
def yX3_fieldTypeEnd : MethodName := ⟨RX3, "fieldTypeEnd", "([III)I"⟩
abbrev cX3_brackets : ByteArray := prog_5_method_8_code
def yX3_brackets : MethodName := ⟨RX3, "brackets", "([III)I"⟩
abbrev cX3_isWord : ByteArray := prog_5_method_9_code
def yX3_isWord : MethodName := ⟨RX3, "isWord", "([IIILjava/lang/String;)Z"⟩
abbrev cX3_firstNoCharacter : ByteArray := prog_5_method_10_code
def yX3_firstNoCharacter : MethodName := ⟨RX3, "firstNoCharacter", "([III)I"⟩
abbrev cX3_characterSize : ByteArray := prog_5_method_11_code
def yX3_characterSize : MethodName := ⟨RX3, "characterSize", "(I)I"⟩
abbrev cX3_isPlainType : ByteArray := prog_5_method_12_code
def yX3_isPlainType : MethodName := ⟨RX3, "isPlainType", "(I)Z"⟩
def TX4 : u_T := fun k => match k with
  | 0 => ("ClassShape$Pool", "file", "LClassShape$FileBytes;", true)
  | 1 => ("ClassShape$Pool", "reader", "LClassShape$Reader;", true)
  | 2 => ("ClassShape$Pool", "kinds", "[I", true)
  | 3 => ("ClassShape$Pool", "tags", "[I", true)
  | _ => ("ClassShape$Pool", "numbersRead", "I", false)
def tyX4 : Nat → FieldType := fun k => match k with
  | 0 => .object "ClassShape$FileBytes"
  | 1 => .object "ClassShape$Reader"
  | 2 => .array .int
  | 3 => .array .int
  | _ => .int
theorem nk_X4 : ∀ a, a < 5 → ∀ b, b < 5 → a ≠ b → (TX4 a).2.1 ≠ (TX4 b).2.1 := by decide +kernel
theorem tk_X4 : ∀ k, k < 5 → parseFieldDescriptor (TX4 k).2.2.1 = some (tyX4 k) := by decide +kernel
abbrev cX4_init : ByteArray := prog_6_method_1_code
def yX4_init : MethodName := ⟨RX4, "<init>", "(LClassShape$Reader;)V"⟩
abbrev cX4_forget : ByteArray := prog_6_method_2_code
def yX4_forget : MethodName := ⟨RX4, "forget", "()V"⟩
abbrev cX4_readEntries : ByteArray := prog_6_method_3_code
def yX4_readEntries : MethodName := ⟨RX4, "readEntries", "()Z"⟩
abbrev cX4_readEntry : ByteArray := prog_6_method_4_code
def yX4_readEntry : MethodName := ⟨RX4, "readEntry", "(II)Z"⟩
abbrev cX4_readLetters : ByteArray := prog_6_method_5_code
def yX4_readLetters : MethodName := ⟨RX4, "readLetters", "(I)Z"⟩
abbrev cX4_takeSecondNumber : ByteArray := prog_6_method_6_code
def yX4_takeSecondNumber : MethodName := ⟨RX4, "takeSecondNumber", "(II)Z"⟩
abbrev cX4_fixedSize : ByteArray := prog_6_method_7_code
def yX4_fixedSize : MethodName := ⟨RX4, "fixedSize", "(I)I"⟩
abbrev cX4_judgeReferences : ByteArray := prog_6_method_8_code
def yX4_judgeReferences : MethodName := ⟨RX4, "judgeReferences", "()Z"⟩
abbrev cX4_referencesFit : ByteArray := prog_6_method_9_code
def yX4_referencesFit : MethodName := ⟨RX4, "referencesFit", "(I)Z"⟩
abbrev cX4_judgeTexts : ByteArray := prog_6_method_10_code
def yX4_judgeTexts : MethodName := ⟨RX4, "judgeTexts", "()Z"⟩
abbrev cX4_textRule : ByteArray := prog_6_method_11_code
def yX4_textRule : MethodName := ⟨RX4, "textRule", "(I)I"⟩
abbrev cX4_kindOf : ByteArray := prog_6_method_12_code
def yX4_kindOf : MethodName := ⟨RX4, "kindOf", "(I)I"⟩
abbrev cX4_first : ByteArray := prog_6_method_13_code
def yX4_first : MethodName := ⟨RX4, "first", "(I)I"⟩
abbrev cX4_second : ByteArray := prog_6_method_14_code
def yX4_second : MethodName := ⟨RX4, "second", "(I)I"⟩
abbrev cX4_textStart : ByteArray := prog_6_method_15_code
def yX4_textStart : MethodName := ⟨RX4, "textStart", "(I)I"⟩
abbrev cX4_textEnd : ByteArray := prog_6_method_16_code
def yX4_textEnd : MethodName := ⟨RX4, "textEnd", "(I)I"⟩
abbrev cX4_isFieldName : ByteArray := prog_6_method_17_code
def yX4_isFieldName : MethodName := ⟨RX4, "isFieldName", "(I)Z"⟩
abbrev cX4_isMemberName : ByteArray := prog_6_method_18_code
def yX4_isMemberName : MethodName := ⟨RX4, "isMemberName", "(I)Z"⟩
abbrev cX4_isFieldType : ByteArray := prog_6_method_19_code
def yX4_isFieldType : MethodName := ⟨RX4, "isFieldType", "(I)Z"⟩
abbrev cX4_isMethodType : ByteArray := prog_6_method_20_code
def yX4_isMethodType : MethodName := ⟨RX4, "isMethodType", "(I)Z"⟩
abbrev cX4_isWord : ByteArray := prog_6_method_21_code
def yX4_isWord : MethodName := ⟨RX4, "isWord", "(ILjava/lang/String;)Z"⟩
abbrev cX4_sameTexts : ByteArray := prog_6_method_22_code
def yX4_sameTexts : MethodName := ⟨RX4, "sameTexts", "(II)Z"⟩
def TX5 : u_T := fun k => match k with
  | 0 => ("ClassShape$Reader", "file", "LClassShape$FileBytes;", true)
  | 1 => ("ClassShape$Reader", "rule", "I", false)
  | 2 => ("ClassShape$Reader", "spot", "I", false)
  | 3 => ("ClassShape$Reader", "next", "I", false)
  | 4 => ("ClassShape$Reader", "limit", "I", false)
  | 5 => ("ClassShape$Reader", "limitRule", "I", false)
  | _ => ("ClassShape$Reader", "limitSpot", "I", false)
def tyX5 : Nat → FieldType := fun k => match k with
  | 0 => .object "ClassShape$FileBytes"
  | 1 => .int
  | 2 => .int
  | 3 => .int
  | 4 => .int
  | 5 => .int
  | _ => .int
theorem nk_X5 : ∀ a, a < 7 → ∀ b, b < 7 → a ≠ b → (TX5 a).2.1 ≠ (TX5 b).2.1 := by decide +kernel
theorem tk_X5 : ∀ k, k < 7 → parseFieldDescriptor (TX5 k).2.2.1 = some (tyX5 k) := by decide +kernel
abbrev cX5_init : ByteArray := prog_7_method_1_code
def yX5_init : MethodName := ⟨RX5, "<init>", "(LClassShape$FileBytes;)V"⟩
abbrev cX5_restart : ByteArray := prog_7_method_2_code
def yX5_restart : MethodName := ⟨RX5, "restart", "()V"⟩
abbrev cX5_confine : ByteArray := prog_7_method_3_code
def yX5_confine : MethodName := ⟨RX5, "confine", "(III)V"⟩
abbrev cX5_release : ByteArray := prog_7_method_4_code
def yX5_release : MethodName := ⟨RX5, "release", "()V"⟩
abbrev cX5_step : ByteArray := prog_7_method_5_code
def yX5_step : MethodName := ⟨RX5, "step", "(I)Z"⟩
abbrev cX5_broken : ByteArray := prog_7_method_6_code
def yX5_broken : MethodName := ⟨RX5, "broken", "(II)Z"⟩
def TX6 : u_T := fun k => match k with
  | 0 => ("ClassShape", "file", "LClassShape$FileBytes;", true)
  | 1 => ("ClassShape", "judging", "LClassShape$Judging;", true)
  | 2 => ("ClassShape", "timesFound", "[I", true)
  | 3 => ("ClassShape", "takenOut", "[I", true)
  | _ => ("ClassShape", "judgings", "I", false)
def tyX6 : Nat → FieldType := fun k => match k with
  | 0 => .object "ClassShape$FileBytes"
  | 1 => .object "ClassShape$Judging"
  | 2 => .array .int
  | 3 => .array .int
  | _ => .int
theorem nk_X6 : ∀ a, a < 5 → ∀ b, b < 5 → a ≠ b → (TX6 a).2.1 ≠ (TX6 b).2.1 := by decide +kernel
theorem tk_X6 : ∀ k, k < 5 → parseFieldDescriptor (TX6 k).2.2.1 = some (tyX6 k) := by decide +kernel
abbrev cX6_init : ByteArray := prog_1_method_1_code
def yX6_init : MethodName := ⟨RX6, "<init>", "()V"⟩
abbrev cX6_put : ByteArray := prog_1_method_2_code
def yX6_put : MethodName := ⟨RX6, "put", "(II)I"⟩
abbrev cX6_text : ByteArray := prog_1_method_3_code
def yX6_text : MethodName := ⟨RX6, "text", "(IJ)I"⟩
abbrev cX6_patch : ByteArray := prog_1_method_4_code
def yX6_patch : MethodName := ⟨RX6, "patch", "(II)I"⟩
abbrev cX6_cut : ByteArray := prog_1_method_5_code
def yX6_cut : MethodName := ⟨RX6, "cut", "(II)I"⟩
abbrev cX6_twice : ByteArray := prog_1_method_6_code
def yX6_twice : MethodName := ⟨RX6, "twice", "(II)I"⟩
abbrev cX6_clear : ByteArray := prog_1_method_7_code
def yX6_clear : MethodName := ⟨RX6, "clear", "()I"⟩
abbrev cX6_judge : ByteArray := prog_1_method_8_code
def yX6_judge : MethodName := ⟨RX6, "judge", "()I"⟩
abbrev cX6_place : ByteArray := prog_1_method_9_code
def yX6_place : MethodName := ⟨RX6, "place", "()I"⟩
abbrev cX6_shrink : ByteArray := prog_1_method_10_code
def yX6_shrink : MethodName := ⟨RX6, "shrink", "()I"⟩
abbrev cX6_at : ByteArray := prog_1_method_11_code
def yX6_at : MethodName := ⟨RX6, "at", "(I)I"⟩
abbrev cX6_read : ByteArray := prog_1_method_12_code
def yX6_read : MethodName := ⟨RX6, "read", "(I)I"⟩
abbrev cX6_found : ByteArray := prog_1_method_13_code
def yX6_found : MethodName := ⟨RX6, "found", "(I)I"⟩
abbrev cX6_count : ByteArray := prog_1_method_14_code
def yX6_count : MethodName := ⟨RX6, "count", "(I)I"⟩
abbrev cX6_rulesFound : ByteArray := prog_1_method_15_code
def yX6_rulesFound : MethodName := ⟨RX6, "rulesFound", "()I"⟩
def TX7 : u_T := fun k => match k with
  | 0 => ("ClassShapeModel", "file", "[I", true)
  | 1 => ("ClassShapeModel", "length", "I", false)
  | 2 => ("ClassShapeModel", "found", "[I", true)
  | 3 => ("ClassShapeModel", "judgings", "I", false)
  | 4 => ("ClassShapeModel", "judged", "Z", false)
  | 5 => ("ClassShapeModel", "at", "I", false)
  | 6 => ("ClassShapeModel", "limit", "I", false)
  | 7 => ("ClassShapeModel", "limitRule", "I", false)
  | 8 => ("ClassShapeModel", "limitPlace", "I", false)
  | 9 => ("ClassShapeModel", "rule", "I", false)
  | 10 => ("ClassShapeModel", "spot", "I", false)
  | 11 => ("ClassShapeModel", "counts", "[I", true)
  | 12 => ("ClassShapeModel", "tag", "[I", true)
  | 13 => ("ClassShapeModel", "tagPlace", "[I", true)
  | 14 => ("ClassShapeModel", "first", "[I", true)
  | 15 => ("ClassShapeModel", "second", "[I", true)
  | 16 => ("ClassShapeModel", "pool", "I", false)
  | 17 => ("ClassShapeModel", "listed", "[I", true)
  | 18 => ("ClassShapeModel", "names", "[I", true)
  | 19 => ("ClassShapeModel", "types", "[I", true)
  | 20 => ("ClassShapeModel", "starts", "[Z", true)
  | 21 => ("ClassShapeModel", "codeAt", "I", false)
  | 22 => ("ClassShapeModel", "codeLength", "I", false)
  | 23 => ("ClassShapeModel", "locals", "I", false)
  | 24 => ("ClassShapeModel", "handlersAt", "I", false)
  | 25 => ("ClassShapeModel", "handlers", "I", false)
  | 26 => ("ClassShapeModel", "instructions", "I", false)
  | 27 => ("ClassShapeModel", "lastOp", "I", false)
  | 28 => ("ClassShapeModel", "init", "[I", true)
  | 29 => ("ClassShapeModel", "clinit", "[I", true)
  | 30 => ("ClassShapeModel", "code", "[I", true)
  | 31 => ("ClassShapeModel", "constantValue", "[I", true)
  | _ => ("ClassShapeModel", "kept", "[I", true)
def tyX7 : Nat → FieldType := fun k => match k with
  | 0 => .array .int
  | 1 => .int
  | 2 => .array .int
  | 3 => .int
  | 4 => .boolean
  | 5 => .int
  | 6 => .int
  | 7 => .int
  | 8 => .int
  | 9 => .int
  | 10 => .int
  | 11 => .array .int
  | 12 => .array .int
  | 13 => .array .int
  | 14 => .array .int
  | 15 => .array .int
  | 16 => .int
  | 17 => .array .int
  | 18 => .array .int
  | 19 => .array .int
  | 20 => .array .boolean
  | 21 => .int
  | 22 => .int
  | 23 => .int
  | 24 => .int
  | 25 => .int
  | 26 => .int
  | 27 => .int
  | 28 => .array .int
  | 29 => .array .int
  | 30 => .array .int
  | 31 => .array .int
  | _ => .array .int
theorem nk_X7 : ∀ a, a < 33 → ∀ b, b < 33 → a ≠ b → (TX7 a).2.1 ≠ (TX7 b).2.1 := by decide +kernel
theorem tk_X7 : ∀ k, k < 33 → parseFieldDescriptor (TX7 k).2.2.1 = some (tyX7 k) := by decide +kernel
abbrev cX7_init : ByteArray := prog_9_method_1_code
def yX7_init : MethodName := ⟨RX7, "<init>", "()V"⟩
abbrev cX7_put : ByteArray := prog_9_method_2_code
def yX7_put : MethodName := ⟨RX7, "put", "(II)I"⟩
abbrev cX7_text : ByteArray := prog_9_method_3_code
def yX7_text : MethodName := ⟨RX7, "text", "(IJ)I"⟩
abbrev cX7_patch : ByteArray := prog_9_method_4_code
def yX7_patch : MethodName := ⟨RX7, "patch", "(II)I"⟩
abbrev cX7_missing : ByteArray := prog_9_method_5_code
def yX7_missing : MethodName := ⟨RX7, "missing", "(II)Z"⟩
abbrev cX7_take : ByteArray := prog_9_method_6_code
def yX7_take : MethodName := ⟨RX7, "take", "(II)V"⟩
abbrev cX7_cut : ByteArray := prog_9_method_7_code
def yX7_cut : MethodName := ⟨RX7, "cut", "(II)I"⟩
abbrev cX7_twice : ByteArray := prog_9_method_8_code
def yX7_twice : MethodName := ⟨RX7, "twice", "(II)I"⟩
abbrev cX7_clear : ByteArray := prog_9_method_9_code
def yX7_clear : MethodName := ⟨RX7, "clear", "()I"⟩
abbrev cX7_fail : ByteArray := prog_9_method_10_code
def yX7_fail : MethodName := ⟨RX7, "fail", "(II)Z"⟩
abbrev cX7_u : ByteArray := prog_9_method_11_code
def yX7_u : MethodName := ⟨RX7, "u", "(I)J"⟩
abbrev cX7_u1 : ByteArray := prog_9_method_12_code
def yX7_u1 : MethodName := ⟨RX7, "u1", "()I"⟩
abbrev cX7_u2 : ByteArray := prog_9_method_13_code
def yX7_u2 : MethodName := ⟨RX7, "u2", "()I"⟩
abbrev cX7_skip : ByteArray := prog_9_method_14_code
def yX7_skip : MethodName := ⟨RX7, "skip", "(J)V"⟩
abbrev cX7_is : ByteArray := prog_9_method_15_code
def yX7_is : MethodName := ⟨RX7, "is", "(II)Z"⟩
abbrev cX7_letter : ByteArray := prog_9_method_16_code
def yX7_letter : MethodName := ⟨RX7, "letter", "(II)I"⟩
abbrev cX7_spells : ByteArray := prog_9_method_17_code
def yX7_spells : MethodName := ⟨RX7, "spells", "(I[I)Z"⟩
abbrev cX7_equal : ByteArray := prog_9_method_18_code
def yX7_equal : MethodName := ⟨RX7, "equal", "(II)Z"⟩
abbrev cX7_fieldName : ByteArray := prog_9_method_19_code
def yX7_fieldName : MethodName := ⟨RX7, "fieldName", "(I)Z"⟩
abbrev cX7_memberName : ByteArray := prog_9_method_20_code
def yX7_memberName : MethodName := ⟨RX7, "memberName", "(I)Z"⟩
abbrev cX7_className : ByteArray := prog_9_method_21_code
def yX7_className : MethodName := ⟨RX7, "className", "(III)Z"⟩
abbrev cX7_base : ByteArray := prog_9_method_22_code
def yX7_base : MethodName := ⟨RX7, "base", "(I)Z"⟩
abbrev cX7_brackets : ByteArray := prog_9_method_23_code
def yX7_brackets : MethodName := ⟨RX7, "brackets", "(II)I"⟩
abbrev cX7_typeEnd : ByteArray := prog_9_method_24_code
def yX7_typeEnd : MethodName := ⟨RX7, "typeEnd", "(II)I"⟩
abbrev cX7_fieldType : ByteArray := prog_9_method_25_code
def yX7_fieldType : MethodName := ⟨RX7, "fieldType", "(I)Z"⟩
abbrev cX7_methodType : ByteArray := prog_9_method_26_code
def yX7_methodType : MethodName := ⟨RX7, "methodType", "(I)Z"⟩
abbrev cX7_characters : ByteArray := prog_9_method_27_code
def yX7_characters : MethodName := ⟨RX7, "characters", "(II)V"⟩
abbrev cX7_entry : ByteArray := prog_9_method_28_code
def yX7_entry : MethodName := ⟨RX7, "entry", "(II)I"⟩
abbrev cX7_readPool : ByteArray := prog_9_method_29_code
def yX7_readPool : MethodName := ⟨RX7, "readPool", "()V"⟩
abbrev cX7_names : ByteArray := prog_9_method_30_code
def yX7_names : MethodName := ⟨RX7, "names", "(I)Z"⟩
abbrev cX7_checkPool : ByteArray := prog_9_method_31_code
def yX7_checkPool : MethodName := ⟨RX7, "checkPool", "()V"⟩
abbrev cX7_classAt : ByteArray := prog_9_method_32_code
def yX7_classAt : MethodName := ⟨RX7, "classAt", "()V"⟩
abbrev cX7_interfaces : ByteArray := prog_9_method_33_code
def yX7_interfaces : MethodName := ⟨RX7, "interfaces", "()V"⟩
abbrev cX7_several : ByteArray := prog_9_method_34_code
def yX7_several : MethodName := ⟨RX7, "several", "(I)Z"⟩
abbrev cX7_header : ByteArray := prog_9_method_35_code
def yX7_header : MethodName := ⟨RX7, "header", "()V"⟩
abbrev cX7_top : ByteArray := prog_9_method_36_code
def yX7_top : MethodName := ⟨RX7, "top", "()V"⟩
abbrev cX7_member : ByteArray := prog_9_method_37_code
def yX7_member : MethodName := ⟨RX7, "member", "(IZ)I"⟩
abbrev cX7_textAt : ByteArray := prog_9_method_38_code
def yX7_textAt : MethodName := ⟨RX7, "textAt", "()I"⟩
abbrev cX7_lengthAt : ByteArray := prog_9_method_39_code
def yX7_lengthAt : MethodName := ⟨RX7, "lengthAt", "()J"⟩
abbrev cX7_attributes : ByteArray := prog_9_method_40_code
def yX7_attributes : MethodName := ⟨RX7, "attributes", "()V"⟩
abbrev cX7_constantFits : ByteArray := prog_9_method_41_code
def yX7_constantFits : MethodName := ⟨RX7, "constantFits", "(II)Z"⟩
abbrev cX7_fieldAttributes : ByteArray := prog_9_method_42_code
def yX7_fieldAttributes : MethodName := ⟨RX7, "fieldAttributes", "(I)V"⟩
abbrev cX7_fields : ByteArray := prog_9_method_43_code
def yX7_fields : MethodName := ⟨RX7, "fields", "()V"⟩
abbrev cX7_methods : ByteArray := prog_9_method_44_code
def yX7_methods : MethodName := ⟨RX7, "methods", "()V"⟩
abbrev cX7_methodAttributes : ByteArray := prog_9_method_45_code
def yX7_methodAttributes : MethodName := ⟨RX7, "methodAttributes", "()Z"⟩
abbrev cX7_readCode : ByteArray := prog_9_method_46_code
def yX7_readCode : MethodName := ⟨RX7, "readCode", "(III)V"⟩
abbrev cX7_byteAt : ByteArray := prog_9_method_47_code
def yX7_byteAt : MethodName := ⟨RX7, "byteAt", "(I)I"⟩
abbrev cX7_shortAt : ByteArray := prog_9_method_48_code
def yX7_shortAt : MethodName := ⟨RX7, "shortAt", "(I)I"⟩
abbrev cX7_wordAt : ByteArray := prog_9_method_49_code
def yX7_wordAt : MethodName := ⟨RX7, "wordAt", "(I)I"⟩
abbrev cX7_tableAt : ByteArray := prog_9_method_50_code
def yX7_tableAt : MethodName := ⟨RX7, "tableAt", "(I)I"⟩
abbrev cX7_size : ByteArray := prog_9_method_51_code
def yX7_size : MethodName := ⟨RX7, "size", "(I)I"⟩
abbrev cX7_operandFits : ByteArray := prog_9_method_52_code
def yX7_operandFits : MethodName := ⟨RX7, "operandFits", "(I)Z"⟩
abbrev cX7_walk : ByteArray := prog_9_method_53_code
def yX7_walk : MethodName := ⟨RX7, "walk", "()V"⟩
abbrev cX7_isStart : ByteArray := prog_9_method_54_code
def yX7_isStart : MethodName := ⟨RX7, "isStart", "(J)Z"⟩
abbrev cX7_jumpsFit : ByteArray := prog_9_method_55_code
def yX7_jumpsFit : MethodName := ⟨RX7, "jumpsFit", "(I)Z"⟩
abbrev cX7_handlerFits : ByteArray := prog_9_method_56_code
def yX7_handlerFits : MethodName := ⟨RX7, "handlerFits", "(I)Z"⟩
abbrev cX7_judgeCode : ByteArray := prog_9_method_57_code
def yX7_judgeCode : MethodName := ⟨RX7, "judgeCode", "()V"⟩
abbrev cX7_run : ByteArray := prog_9_method_58_code
def yX7_run : MethodName := ⟨RX7, "run", "()I"⟩
abbrev cX7_judge : ByteArray := prog_9_method_59_code
def yX7_judge : MethodName := ⟨RX7, "judge", "()I"⟩
abbrev cX7_place : ByteArray := prog_9_method_60_code
def yX7_place : MethodName := ⟨RX7, "place", "()I"⟩
abbrev cX7_without : ByteArray := prog_9_method_61_code
def yX7_without : MethodName := ⟨RX7, "without", "(III)Z"⟩
abbrev cX7_shrink : ByteArray := prog_9_method_62_code
def yX7_shrink : MethodName := ⟨RX7, "shrink", "()I"⟩
abbrev cX7_at : ByteArray := prog_9_method_63_code
def yX7_at : MethodName := ⟨RX7, "at", "(I)I"⟩
abbrev cX7_read : ByteArray := prog_9_method_64_code
def yX7_read : MethodName := ⟨RX7, "read", "(I)I"⟩
abbrev cX7_found : ByteArray := prog_9_method_65_code
def yX7_found : MethodName := ⟨RX7, "found", "(I)I"⟩
abbrev cX7_count : ByteArray := prog_9_method_66_code
def yX7_count : MethodName := ⟨RX7, "count", "(I)I"⟩
abbrev cX8_bitCount : ByteArray := prog_10_method_49_code
def yX8_bitCount : MethodName := ⟨RX8, "bitCount", "(I)I"⟩
abbrev vwCl : List vw_C := [(RX0, TX0, 10), (RX1, TX1, 2), (RX2, TX2, 7), (RX4, TX4, 5), (RX5, TX5, 7), (RX6, TX6, 5), (RX7, TX7, 33)]
def TBL : List Cond := lw_tbl.filter goodWord
def NW : List Cond := [Cond.methodLinkNest RX6 9 yX1_init "ClassShape"]
theorem nw_good : ∀ w ∈ NW, (∃ a i b n d h, w = Cond.fieldLinkNest a i b n d h) ∨ (∃ a i y h, w = Cond.methodLinkNest a i y h) := by
  intro w hw
  rw [NW, List.mem_singleton] at hw
  exact Or.inr ⟨_, _, _, _, hw⟩
