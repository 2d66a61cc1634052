-- ===== PART A: goes FIRST, ahead of the names: the tables' words, and 'selects' of the private methods out of them =====
/-- a private method of a class that the tables say can be made, by its rows of tables_1 -/
def lw_okq (q : MethodName × Nat) : Prop := (q.1.cls ≠ "java/lang/invoke/MethodHandle" ∧ q.1.cls ≠ "java/lang/invoke/VarHandle") ∧ Cond.instantiable q.1.cls q.2 ∈ tables_1 ∧ Cond.privateMethod q.1 ∈ tables_1 ∧ Cond.instanceMethod q.1 ∈ tables_1
theorem lw_p0 : lw_okq (⟨"StepPile$Statements", "mayStandNext", "(I)Z"⟩, 7) := ⟨⟨by decide +kernel, by decide +kernel⟩, List.mem_of_getElem? (i := 37) (by decide +kernel), List.mem_of_getElem? (i := 183) (by decide +kernel), List.mem_of_getElem? (i := 184) (by decide +kernel)⟩
theorem lw_p1 : lw_okq (⟨"StepPile$Rows", "makeRoom", "(I)V"⟩, 3) := ⟨⟨by decide +kernel, by decide +kernel⟩, List.mem_of_getElem? (i := 43) (by decide +kernel), List.mem_of_getElem? (i := 212) (by decide +kernel), List.mem_of_getElem? (i := 213) (by decide +kernel)⟩
theorem lw_p2 : lw_okq (⟨"StepPile$Statements", "isAssertionOpen", "()Z"⟩, 7) := ⟨⟨by decide +kernel, by decide +kernel⟩, List.mem_of_getElem? (i := 37) (by decide +kernel), List.mem_of_getElem? (i := 240) (by decide +kernel), List.mem_of_getElem? (i := 241) (by decide +kernel)⟩
theorem lw_p3 : lw_okq (⟨"StepPile$Statements", "isClosedHypothesis", "(I)Z"⟩, 7) := ⟨⟨by decide +kernel, by decide +kernel⟩, List.mem_of_getElem? (i := 37) (by decide +kernel), List.mem_of_getElem? (i := 244) (by decide +kernel), List.mem_of_getElem? (i := 245) (by decide +kernel)⟩
theorem lw_p4 : lw_okq (⟨"StepPile$Statements", "mayBeNeeded", "(I)Z"⟩, 7) := ⟨⟨by decide +kernel, by decide +kernel⟩, List.mem_of_getElem? (i := 37) (by decide +kernel), List.mem_of_getElem? (i := 252) (by decide +kernel), List.mem_of_getElem? (i := 253) (by decide +kernel)⟩
theorem lw_p5 : lw_okq (⟨"StepPile$Statements", "hasFloating", "(I)Z"⟩, 7) := ⟨⟨by decide +kernel, by decide +kernel⟩, List.mem_of_getElem? (i := 37) (by decide +kernel), List.mem_of_getElem? (i := 260) (by decide +kernel), List.mem_of_getElem? (i := 261) (by decide +kernel)⟩
theorem lw_p6 : lw_okq (⟨"StepPile$Statements", "isNeeded", "(I)Z"⟩, 7) := ⟨⟨by decide +kernel, by decide +kernel⟩, List.mem_of_getElem? (i := 37) (by decide +kernel), List.mem_of_getElem? (i := 264) (by decide +kernel), List.mem_of_getElem? (i := 265) (by decide +kernel)⟩
theorem lw_p7 : lw_okq (⟨"StepPile$Statements", "allHaveFloating", "(I)Z"⟩, 7) := ⟨⟨by decide +kernel, by decide +kernel⟩, List.mem_of_getElem? (i := 37) (by decide +kernel), List.mem_of_getElem? (i := 268) (by decide +kernel), List.mem_of_getElem? (i := 269) (by decide +kernel)⟩
theorem lw_p8 : lw_okq (⟨"StepPile$Statements", "setFloating", "(I)V"⟩, 7) := ⟨⟨by decide +kernel, by decide +kernel⟩, List.mem_of_getElem? (i := 37) (by decide +kernel), List.mem_of_getElem? (i := 272) (by decide +kernel), List.mem_of_getElem? (i := 273) (by decide +kernel)⟩
theorem lw_p9 : lw_okq (⟨"StepPile$Statements", "isPair", "(II)Z"⟩, 7) := ⟨⟨by decide +kernel, by decide +kernel⟩, List.mem_of_getElem? (i := 37) (by decide +kernel), List.mem_of_getElem? (i := 284) (by decide +kernel), List.mem_of_getElem? (i := 285) (by decide +kernel)⟩
theorem lw_p10 : lw_okq (⟨"StepPile$Statements", "isWhole", "()Z"⟩, 7) := ⟨⟨by decide +kernel, by decide +kernel⟩, List.mem_of_getElem? (i := 37) (by decide +kernel), List.mem_of_getElem? (i := 296) (by decide +kernel), List.mem_of_getElem? (i := 297) (by decide +kernel)⟩
theorem lw_p11 : lw_okq (⟨"StepPile$Symbols", "areTwoVariables", "(II)Z"⟩, 3) := ⟨⟨by decide +kernel, by decide +kernel⟩, List.mem_of_getElem? (i := 19) (by decide +kernel), List.mem_of_getElem? (i := 308) (by decide +kernel), List.mem_of_getElem? (i := 309) (by decide +kernel)⟩
theorem lw_p12 : lw_okq (⟨"StepPile", "useAssertion", "(I)I"⟩, 6) := ⟨⟨by decide +kernel, by decide +kernel⟩, List.mem_of_getElem? (i := 11) (by decide +kernel), List.mem_of_getElem? (i := 328) (by decide +kernel), List.mem_of_getElem? (i := 329) (by decide +kernel)⟩
theorem lw_p13 : lw_okq (⟨"StepPile", "allFit", "(II)Z"⟩, 6) := ⟨⟨by decide +kernel, by decide +kernel⟩, List.mem_of_getElem? (i := 11) (by decide +kernel), List.mem_of_getElem? (i := 334) (by decide +kernel), List.mem_of_getElem? (i := 335) (by decide +kernel)⟩
theorem lw_p14 : lw_okq (⟨"StepPile$Becoming", "rowFor", "(I)I"⟩, 7) := ⟨⟨by decide +kernel, by decide +kernel⟩, List.mem_of_getElem? (i := 93) (by decide +kernel), List.mem_of_getElem? (i := 350) (by decide +kernel), List.mem_of_getElem? (i := 351) (by decide +kernel)⟩
theorem lw_p15 : lw_okq (⟨"StepPile$Rows", "hasPart", "(III)Z"⟩, 3) := ⟨⟨by decide +kernel, by decide +kernel⟩, List.mem_of_getElem? (i := 43) (by decide +kernel), List.mem_of_getElem? (i := 358) (by decide +kernel), List.mem_of_getElem? (i := 359) (by decide +kernel)⟩
def lw_privs_1 : List (MethodName × Nat) := [(⟨"StepPile$Statements", "mayStandNext", "(I)Z"⟩, 7), (⟨"StepPile$Rows", "makeRoom", "(I)V"⟩, 3), (⟨"StepPile$Statements", "isAssertionOpen", "()Z"⟩, 7), (⟨"StepPile$Statements", "isClosedHypothesis", "(I)Z"⟩, 7), (⟨"StepPile$Statements", "mayBeNeeded", "(I)Z"⟩, 7), (⟨"StepPile$Statements", "hasFloating", "(I)Z"⟩, 7), (⟨"StepPile$Statements", "isNeeded", "(I)Z"⟩, 7), (⟨"StepPile$Statements", "allHaveFloating", "(I)Z"⟩, 7), (⟨"StepPile$Statements", "setFloating", "(I)V"⟩, 7), (⟨"StepPile$Statements", "isPair", "(II)Z"⟩, 7), (⟨"StepPile$Statements", "isWhole", "()Z"⟩, 7), (⟨"StepPile$Symbols", "areTwoVariables", "(II)Z"⟩, 3), (⟨"StepPile", "useAssertion", "(I)I"⟩, 6), (⟨"StepPile", "allFit", "(II)Z"⟩, 6), (⟨"StepPile$Becoming", "rowFor", "(I)I"⟩, 7), (⟨"StepPile$Rows", "hasPart", "(III)Z"⟩, 3)]
theorem lw_r1 : ∀ q ∈ lw_privs_1, lw_okq q := List.forall_mem_cons.mpr ⟨lw_p0, List.forall_mem_cons.mpr ⟨lw_p1, List.forall_mem_cons.mpr ⟨lw_p2, List.forall_mem_cons.mpr ⟨lw_p3, List.forall_mem_cons.mpr ⟨lw_p4, List.forall_mem_cons.mpr ⟨lw_p5, List.forall_mem_cons.mpr ⟨lw_p6, List.forall_mem_cons.mpr ⟨lw_p7, List.forall_mem_cons.mpr ⟨lw_p8, List.forall_mem_cons.mpr ⟨lw_p9, List.forall_mem_cons.mpr ⟨lw_p10, List.forall_mem_cons.mpr ⟨lw_p11, List.forall_mem_cons.mpr ⟨lw_p12, List.forall_mem_cons.mpr ⟨lw_p13, List.forall_mem_cons.mpr ⟨lw_p14, List.forall_mem_cons.mpr ⟨lw_p15, fun _ h => absurd h List.not_mem_nil⟩⟩⟩⟩⟩⟩⟩⟩⟩⟩⟩⟩⟩⟩⟩⟩
theorem lw_p16 : lw_okq (⟨"StepPile", "allApart", "(II)Z"⟩, 6) := ⟨⟨by decide +kernel, by decide +kernel⟩, List.mem_of_getElem? (i := 11) (by decide +kernel), List.mem_of_getElem? (i := 362) (by decide +kernel), List.mem_of_getElem? (i := 363) (by decide +kernel)⟩
theorem lw_p17 : lw_okq (⟨"StepPile", "hasRoom", "(II)Z"⟩, 6) := ⟨⟨by decide +kernel, by decide +kernel⟩, List.mem_of_getElem? (i := 11) (by decide +kernel), List.mem_of_getElem? (i := 392) (by decide +kernel), List.mem_of_getElem? (i := 393) (by decide +kernel)⟩
theorem lw_p18 : lw_okq (⟨"StepPile$Rows", "addPart", "([III)V"⟩, 3) := ⟨⟨by decide +kernel, by decide +kernel⟩, List.mem_of_getElem? (i := 43) (by decide +kernel), List.mem_of_getElem? (i := 410) (by decide +kernel), List.mem_of_getElem? (i := 411) (by decide +kernel)⟩
theorem lw_p19 : lw_okq (⟨"StepPile", "putCopy", "(LStepPile$Rows;I)I"⟩, 6) := ⟨⟨by decide +kernel, by decide +kernel⟩, List.mem_of_getElem? (i := 11) (by decide +kernel), List.mem_of_getElem? (i := 414) (by decide +kernel), List.mem_of_getElem? (i := 415) (by decide +kernel)⟩
theorem lw_p20 : lw_okq (⟨"StepPile", "settle", "(I)I"⟩, 6) := ⟨⟨by decide +kernel, by decide +kernel⟩, List.mem_of_getElem? (i := 11) (by decide +kernel), List.mem_of_getElem? (i := 423) (by decide +kernel), List.mem_of_getElem? (i := 424) (by decide +kernel)⟩
theorem lw_p21 : lw_okq (⟨"StepPile", "dropAll", "()V"⟩, 6) := ⟨⟨by decide +kernel, by decide +kernel⟩, List.mem_of_getElem? (i := 11) (by decide +kernel), List.mem_of_getElem? (i := 427) (by decide +kernel), List.mem_of_getElem? (i := 428) (by decide +kernel)⟩
theorem lw_p22 : lw_okq (⟨"StepPile", "symbolsInAll", "()I"⟩, 6) := ⟨⟨by decide +kernel, by decide +kernel⟩, List.mem_of_getElem? (i := 11) (by decide +kernel), List.mem_of_getElem? (i := 436) (by decide +kernel), List.mem_of_getElem? (i := 437) (by decide +kernel)⟩
theorem lw_p23 : lw_okq (⟨"StepPileModel", "last", "()I"⟩, 23) := ⟨⟨by decide +kernel, by decide +kernel⟩, List.mem_of_getElem? (i := 483) (by decide +kernel), List.mem_of_getElem? (i := 575) (by decide +kernel), List.mem_of_getElem? (i := 576) (by decide +kernel)⟩
theorem lw_p24 : lw_okq (⟨"StepPileModel", "isOpenAssertion", "()Z"⟩, 23) := ⟨⟨by decide +kernel, by decide +kernel⟩, List.mem_of_getElem? (i := 483) (by decide +kernel), List.mem_of_getElem? (i := 583) (by decide +kernel), List.mem_of_getElem? (i := 584) (by decide +kernel)⟩
theorem lw_p25 : lw_okq (⟨"StepPileModel", "hasFloating", "(I)Z"⟩, 23) := ⟨⟨by decide +kernel, by decide +kernel⟩, List.mem_of_getElem? (i := 483) (by decide +kernel), List.mem_of_getElem? (i := 587) (by decide +kernel), List.mem_of_getElem? (i := 588) (by decide +kernel)⟩
theorem lw_p26 : lw_okq (⟨"StepPileModel", "hasAll", "(I)Z"⟩, 23) := ⟨⟨by decide +kernel, by decide +kernel⟩, List.mem_of_getElem? (i := 483) (by decide +kernel), List.mem_of_getElem? (i := 591) (by decide +kernel), List.mem_of_getElem? (i := 592) (by decide +kernel)⟩
theorem lw_p27 : lw_okq (⟨"StepPileModel", "isVariable", "(I)Z"⟩, 23) := ⟨⟨by decide +kernel, by decide +kernel⟩, List.mem_of_getElem? (i := 483) (by decide +kernel), List.mem_of_getElem? (i := 599) (by decide +kernel), List.mem_of_getElem? (i := 600) (by decide +kernel)⟩
theorem lw_p28 : lw_okq (⟨"StepPileModel", "areApart", "(II)Z"⟩, 23) := ⟨⟨by decide +kernel, by decide +kernel⟩, List.mem_of_getElem? (i := 483) (by decide +kernel), List.mem_of_getElem? (i := 611) (by decide +kernel), List.mem_of_getElem? (i := 612) (by decide +kernel)⟩
theorem lw_p29 : lw_okq (⟨"StepPileModel", "isClosed", "(I)Z"⟩, 23) := ⟨⟨by decide +kernel, by decide +kernel⟩, List.mem_of_getElem? (i := 483) (by decide +kernel), List.mem_of_getElem? (i := 619) (by decide +kernel), List.mem_of_getElem? (i := 620) (by decide +kernel)⟩
theorem lw_p30 : lw_okq (⟨"StepPileModel", "assertion", "(I)I"⟩, 23) := ⟨⟨by decide +kernel, by decide +kernel⟩, List.mem_of_getElem? (i := 483) (by decide +kernel), List.mem_of_getElem? (i := 623) (by decide +kernel), List.mem_of_getElem? (i := 624) (by decide +kernel)⟩
theorem lw_p31 : lw_okq (⟨"StepPileModel", "fail", "(I)I"⟩, 23) := ⟨⟨by decide +kernel, by decide +kernel⟩, List.mem_of_getElem? (i := 483) (by decide +kernel), List.mem_of_getElem? (i := 627) (by decide +kernel), List.mem_of_getElem? (i := 628) (by decide +kernel)⟩
def lw_privs_2 : List (MethodName × Nat) := [(⟨"StepPile", "allApart", "(II)Z"⟩, 6), (⟨"StepPile", "hasRoom", "(II)Z"⟩, 6), (⟨"StepPile$Rows", "addPart", "([III)V"⟩, 3), (⟨"StepPile", "putCopy", "(LStepPile$Rows;I)I"⟩, 6), (⟨"StepPile", "settle", "(I)I"⟩, 6), (⟨"StepPile", "dropAll", "()V"⟩, 6), (⟨"StepPile", "symbolsInAll", "()I"⟩, 6), (⟨"StepPileModel", "last", "()I"⟩, 23), (⟨"StepPileModel", "isOpenAssertion", "()Z"⟩, 23), (⟨"StepPileModel", "hasFloating", "(I)Z"⟩, 23), (⟨"StepPileModel", "hasAll", "(I)Z"⟩, 23), (⟨"StepPileModel", "isVariable", "(I)Z"⟩, 23), (⟨"StepPileModel", "areApart", "(II)Z"⟩, 23), (⟨"StepPileModel", "isClosed", "(I)Z"⟩, 23), (⟨"StepPileModel", "assertion", "(I)I"⟩, 23), (⟨"StepPileModel", "fail", "(I)I"⟩, 23)]
theorem lw_r2 : ∀ q ∈ lw_privs_2, lw_okq q := List.forall_mem_cons.mpr ⟨lw_p16, List.forall_mem_cons.mpr ⟨lw_p17, List.forall_mem_cons.mpr ⟨lw_p18, List.forall_mem_cons.mpr ⟨lw_p19, List.forall_mem_cons.mpr ⟨lw_p20, List.forall_mem_cons.mpr ⟨lw_p21, List.forall_mem_cons.mpr ⟨lw_p22, List.forall_mem_cons.mpr ⟨lw_p23, List.forall_mem_cons.mpr ⟨lw_p24, List.forall_mem_cons.mpr ⟨lw_p25, List.forall_mem_cons.mpr ⟨lw_p26, List.forall_mem_cons.mpr ⟨lw_p27, List.forall_mem_cons.mpr ⟨lw_p28, List.forall_mem_cons.mpr ⟨lw_p29, List.forall_mem_cons.mpr ⟨lw_p30, List.forall_mem_cons.mpr ⟨lw_p31, fun _ h => absurd h List.not_mem_nil⟩⟩⟩⟩⟩⟩⟩⟩⟩⟩⟩⟩⟩⟩⟩⟩
theorem lw_p32 : lw_okq (⟨"StepPileModel", "empty", "()V"⟩, 23) := ⟨⟨by decide +kernel, by decide +kernel⟩, List.mem_of_getElem? (i := 483) (by decide +kernel), List.mem_of_getElem? (i := 631) (by decide +kernel), List.mem_of_getElem? (i := 632) (by decide +kernel)⟩
theorem lw_p33 : lw_okq (⟨"StepPileModel", "symbolOf", "(II)I"⟩, 23) := ⟨⟨by decide +kernel, by decide +kernel⟩, List.mem_of_getElem? (i := 483) (by decide +kernel), List.mem_of_getElem? (i := 635) (by decide +kernel), List.mem_of_getElem? (i := 636) (by decide +kernel)⟩
theorem lw_p34 : lw_okq (⟨"StepPileModel", "isReplaced", "(II)Z"⟩, 23) := ⟨⟨by decide +kernel, by decide +kernel⟩, List.mem_of_getElem? (i := 483) (by decide +kernel), List.mem_of_getElem? (i := 639) (by decide +kernel), List.mem_of_getElem? (i := 640) (by decide +kernel)⟩
theorem lw_p35 : lw_okq (⟨"StepPileModel", "doStayApart", "(II)Z"⟩, 23) := ⟨⟨by decide +kernel, by decide +kernel⟩, List.mem_of_getElem? (i := 483) (by decide +kernel), List.mem_of_getElem? (i := 643) (by decide +kernel), List.mem_of_getElem? (i := 644) (by decide +kernel)⟩
theorem lw_p36 : lw_okq (⟨"StepPileModel", "make", "(I)Z"⟩, 23) := ⟨⟨by decide +kernel, by decide +kernel⟩, List.mem_of_getElem? (i := 483) (by decide +kernel), List.mem_of_getElem? (i := 647) (by decide +kernel), List.mem_of_getElem? (i := 648) (by decide +kernel)⟩
theorem lw_p37 : lw_okq (⟨"StepPileModel", "pushMade", "()I"⟩, 23) := ⟨⟨by decide +kernel, by decide +kernel⟩, List.mem_of_getElem? (i := 483) (by decide +kernel), List.mem_of_getElem? (i := 651) (by decide +kernel), List.mem_of_getElem? (i := 652) (by decide +kernel)⟩
theorem lw_p38 : lw_okq (⟨"StepPileModel", "allSymbols", "()I"⟩, 23) := ⟨⟨by decide +kernel, by decide +kernel⟩, List.mem_of_getElem? (i := 483) (by decide +kernel), List.mem_of_getElem? (i := 655) (by decide +kernel), List.mem_of_getElem? (i := 656) (by decide +kernel)⟩
theorem lw_p39 : lw_okq (⟨"StepPileModel", "isRow", "(I)Z"⟩, 23) := ⟨⟨by decide +kernel, by decide +kernel⟩, List.mem_of_getElem? (i := 483) (by decide +kernel), List.mem_of_getElem? (i := 680) (by decide +kernel), List.mem_of_getElem? (i := 681) (by decide +kernel)⟩
def lw_privs_3 : List (MethodName × Nat) := [(⟨"StepPileModel", "empty", "()V"⟩, 23), (⟨"StepPileModel", "symbolOf", "(II)I"⟩, 23), (⟨"StepPileModel", "isReplaced", "(II)Z"⟩, 23), (⟨"StepPileModel", "doStayApart", "(II)Z"⟩, 23), (⟨"StepPileModel", "make", "(I)Z"⟩, 23), (⟨"StepPileModel", "pushMade", "()I"⟩, 23), (⟨"StepPileModel", "allSymbols", "()I"⟩, 23), (⟨"StepPileModel", "isRow", "(I)Z"⟩, 23)]
theorem lw_r3 : ∀ q ∈ lw_privs_3, lw_okq q := List.forall_mem_cons.mpr ⟨lw_p32, List.forall_mem_cons.mpr ⟨lw_p33, List.forall_mem_cons.mpr ⟨lw_p34, List.forall_mem_cons.mpr ⟨lw_p35, List.forall_mem_cons.mpr ⟨lw_p36, List.forall_mem_cons.mpr ⟨lw_p37, List.forall_mem_cons.mpr ⟨lw_p38, List.forall_mem_cons.mpr ⟨lw_p39, fun _ h => absurd h List.not_mem_nil⟩⟩⟩⟩⟩⟩⟩⟩
def lw_privs : List (MethodName × Nat) := lw_privs_1 ++ (lw_privs_2 ++ (lw_privs_3))
def lw_tbl : List Cond := k2_sels lw_privs ++ tables_1
theorem lw_privs_ok : ∀ q ∈ lw_privs, lw_okq q := by
  show ∀ q ∈ lw_privs_1 ++ (lw_privs_2 ++ (lw_privs_3)), lw_okq q
  exact List.forall_mem_append.mpr ⟨lw_r1, List.forall_mem_append.mpr ⟨lw_r2, lw_r3⟩⟩
/-! NAMES (by program): classes, methods, what the constant pools link. -/
def nT_P : u_T := fun k => match k with
  | 0 => ("StepPile", "symbols", "LStepPile$Symbols;", true)
  | 1 => ("StepPile", "statements", "LStepPile$Statements;", true)
  | 2 => ("StepPile", "pile", "LStepPile$Rows;", true)
  | 3 => ("StepPile", "saved", "LStepPile$Rows;", true)
  | 4 => ("StepPile", "becoming", "LStepPile$Becoming;", true)
  | _ => ("StepPile", "made", "[I", true)
def nT_R : u_T := fun k => match k with
  | 0 => ("StepPile$Rows", "cells", "[I", false)
  | 1 => ("StepPile$Rows", "starts", "[I", true)
  | _ => ("StepPile$Rows", "rows", "I", false)
def nT_Y : u_T := fun k => match k with
  | 0 => ("StepPile$Symbols", "variables", "[Z", true)
  | 1 => ("StepPile$Symbols", "parted", "[J", true)
  | _ => ("StepPile$Symbols", "known", "I", false)
def nT_T : u_T := fun k => match k with
  | 0 => ("StepPile$Statements", "texts", "LStepPile$Rows;", true)
  | 1 => ("StepPile$Statements", "needs", "LStepPile$Rows;", true)
  | 2 => ("StepPile$Statements", "pairs", "LStepPile$Rows;", true)
  | 3 => ("StepPile$Statements", "symbols", "LStepPile$Symbols;", true)
  | 4 => ("StepPile$Statements", "kinds", "[I", true)
  | 5 => ("StepPile$Statements", "floatsIn", "[I", true)
  | _ => ("StepPile$Statements", "open", "I", false)
def nT_B : u_T := fun k => match k with
  | 0 => ("StepPile$Becoming", "symbols", "LStepPile$Symbols;", true)
  | 1 => ("StepPile$Becoming", "pile", "LStepPile$Rows;", true)
  | 2 => ("StepPile$Becoming", "rowOf", "[I", true)
  | 3 => ("StepPile$Becoming", "inside", "LStepPile$Rows;", true)
  | 4 => ("StepPile$Becoming", "lowest", "I", false)
  | 5 => ("StepPile$Becoming", "seen", "[I", true)
  | _ => ("StepPile$Becoming", "mark", "I", false)
def nT_M : u_T := fun k => match k with
  | 0 => ("StepPileModel", "thrown", "I", false)
  | 1 => ("StepPileModel", "constants", "[Z", true)
  | 2 => ("StepPileModel", "symbols", "I", false)
  | 3 => ("StepPileModel", "kinds", "[I", true)
  | 4 => ("StepPileModel", "texts", "[I", true)
  | 5 => ("StepPileModel", "lengths", "[I", true)
  | 6 => ("StepPileModel", "hypotheses", "[I", true)
  | 7 => ("StepPileModel", "hypothesisCounts", "[I", true)
  | 8 => ("StepPileModel", "ones", "[I", true)
  | 9 => ("StepPileModel", "others", "[I", true)
  | 10 => ("StepPileModel", "pairCounts", "[I", true)
  | 11 => ("StepPileModel", "statements", "I", false)
  | 12 => ("StepPileModel", "open", "Z", false)
  | 13 => ("StepPileModel", "apart", "[J", true)
  | 14 => ("StepPileModel", "pile", "[I", true)
  | 15 => ("StepPileModel", "sizes", "[I", true)
  | 16 => ("StepPileModel", "rows", "I", false)
  | 17 => ("StepPileModel", "saved", "[I", true)
  | 18 => ("StepPileModel", "savedSizes", "[I", true)
  | 19 => ("StepPileModel", "savedCount", "I", false)
  | 20 => ("StepPileModel", "made", "[I", true)
  | 21 => ("StepPileModel", "madeSize", "I", false)
  | _ => ("StepPileModel", "becomes", "[I", true)
abbrev vwCl : List vw_C := [("StepPile", nT_P, 6), ("StepPile$Rows", nT_R, 3), ("StepPile$Symbols", nT_Y, 3), ("StepPile$Statements", nT_T, 7), ("StepPile$Becoming", nT_B, 7), ("StepPileModel", nT_M, 23)]
def mt_cn (o : Nat) : String := (["StepPile", "StepPile$Rows", "StepPile$Symbols", "StepPile$Statements", "StepPile$Becoming", "StepPileModel", "StepPileLaw", "java/util/Arrays"] : List String).getD o "java/util/Arrays"
def mt_law : Nat := 117
def mt_code (y : Nat) : ByteArray := ([prog_1_method_1_code, prog_1_method_2_code, prog_1_method_3_code, prog_1_method_4_code, prog_1_method_5_code, prog_1_method_6_code, prog_1_method_7_code, prog_1_method_8_code, prog_1_method_9_code, prog_1_method_24_code, prog_1_method_25_code, prog_1_method_26_code, prog_1_method_22_code, prog_1_method_23_code, prog_1_method_21_code, prog_1_method_20_code, prog_1_method_10_code, prog_1_method_19_code, prog_1_method_11_code, prog_1_method_12_code, prog_1_method_13_code, prog_1_method_14_code, prog_1_method_15_code, prog_1_method_16_code, prog_1_method_17_code, prog_1_method_18_code, prog_3_method_1_code, prog_3_method_3_code, prog_3_method_2_code, prog_3_method_12_code, prog_3_method_5_code, prog_3_method_4_code, prog_3_method_13_code, prog_3_method_17_code, prog_3_method_8_code, prog_3_method_10_code, prog_3_method_9_code, prog_3_method_18_code, prog_3_method_11_code, prog_3_method_7_code, prog_3_method_6_code, prog_3_method_14_code, prog_3_method_16_code, prog_3_method_15_code, prog_3_method_19_code, prog_5_method_1_code, prog_5_method_3_code, prog_5_method_4_code, prog_5_method_6_code, prog_5_method_5_code, prog_5_method_8_code, prog_5_method_7_code, prog_5_method_9_code, prog_5_method_10_code, prog_5_method_2_code, prog_4_method_1_code, prog_4_method_6_code, prog_4_method_7_code, prog_4_method_8_code, prog_4_method_2_code, prog_4_method_9_code, prog_4_method_4_code, prog_4_method_5_code, prog_4_method_3_code, prog_4_method_10_code, prog_4_method_13_code, prog_4_method_11_code, prog_4_method_14_code, prog_4_method_12_code, prog_4_method_15_code, prog_4_method_16_code, prog_4_method_17_code, prog_4_method_18_code, prog_2_method_1_code, prog_2_method_3_code, prog_2_method_4_code, prog_2_method_2_code, prog_2_method_6_code, prog_2_method_7_code, prog_2_method_5_code, prog_7_method_1_code, prog_7_method_3_code, prog_7_method_5_code, prog_7_method_7_code, prog_7_method_6_code, prog_7_method_11_code, prog_7_method_10_code, prog_7_method_8_code, prog_7_method_9_code, prog_7_method_12_code, prog_7_method_4_code, prog_7_method_13_code, prog_7_method_15_code, prog_7_method_14_code, prog_7_method_26_code, prog_7_method_25_code, prog_7_method_24_code, prog_7_method_18_code, prog_7_method_17_code, prog_7_method_20_code, prog_7_method_21_code, prog_7_method_22_code, prog_7_method_23_code, prog_7_method_19_code, prog_7_method_16_code, prog_7_method_27_code, prog_7_method_28_code, prog_7_method_29_code, prog_7_method_30_code, prog_7_method_32_code, prog_7_method_31_code, prog_7_method_33_code, prog_7_method_34_code, prog_7_method_35_code, prog_7_method_36_code, prog_11_method_103_code, prog_11_method_123_code, code] : List (ByteArray)).getD y (prog_1_method_1_code)
def mt_cls (y : Nat) : Nat := ([0, 0, 0, 0, 0, 0, 0, 0, 0, 0, 0, 0, 0, 0, 0, 0, 0, 0, 0, 0, 0, 0, 0, 0, 0, 0, 1, 1, 1, 1, 1, 1, 1, 1, 1, 1, 1, 1, 1, 1, 1, 1, 1, 1, 1, 2, 2, 2, 2, 2, 2, 2, 2, 2, 2, 3, 3, 3, 3, 3, 3, 3, 3, 3, 3, 3, 3, 3, 3, 3, 3, 3, 3, 4, 4, 4, 4, 4, 4, 4, 5, 5, 5, 5, 5, 5, 5, 5, 5, 5, 5, 5, 5, 5, 5, 5, 5, 5, 5, 5, 5, 5, 5, 5, 5, 5, 5, 5, 5, 5, 5, 5, 5, 5, 5, 7, 7, 6] : List (Nat)).getD y (0)
def mt_nl (y : Nat) : Nat := ([1, 2, 2, 2, 2, 3, 1, 3, 3, 4, 8, 5, 3, 3, 2, 1, 2, 1, 2, 2, 2, 2, 3, 3, 5, 3, 2, 1, 1, 1, 2, 2, 2, 3, 4, 10, 4, 2, 6, 2, 1, 3, 4, 3, 2, 1, 2, 2, 2, 2, 4, 3, 4, 4, 1, 2, 3, 2, 3, 2, 2, 1, 2, 2, 2, 2, 4, 5, 2, 3, 7, 1, 2, 3, 5, 10, 2, 7, 9, 10, 1, 2, 2, 5, 1, 4, 1, 5, 5, 5, 2, 3, 3, 3, 3, 2, 7, 2, 1, 3, 9, 8, 6, 2, 3, 2, 3, 2, 2, 2, 2, 3, 3, 5, 1, 4, 3, 4] : List (Nat)).getD y (1)
def mt_rk (y : Nat) : Nat := ([0, 1, 1, 1, 1, 1, 1, 1, 1, 1, 2, 2, 2, 1, 1, 0, 1, 1, 1, 1, 1, 1, 1, 1, 1, 1, 0, 2, 1, 0, 1, 2, 0, 0, 1, 2, 2, 0, 0, 1, 1, 0, 0, 0, 2, 0, 1, 2, 2, 2, 2, 2, 2, 1, 1, 0, 1, 1, 2, 1, 1, 2, 2, 2, 2, 2, 2, 2, 0, 1, 2, 2, 2, 0, 2, 2, 1, 0, 2, 1, 0, 1, 1, 1, 1, 1, 2, 2, 2, 1, 2, 1, 1, 2, 1, 2, 1, 1, 0, 1, 2, 2, 2, 1, 1, 1, 1, 1, 1, 1, 2, 1, 1, 1, 1, 0, 3, 2] : List (Nat)).getD y (0)
def mt_init (y : Nat) : Bool := ([true, false, false, false, false, false, false, false, false, false, false, false, false, false, false, false, false, false, false, false, false, false, false, false, false, false, true, false, false, false, false, false, false, false, false, false, false, false, false, false, false, false, false, false, false, true, false, false, false, false, false, false, false, false, false, true, false, false, false, false, false, false, false, false, false, false, false, false, false, false, false, false, false, true, false, false, false, false, false, false, true, false, false, false, false, false, false, false, false, false, false, false, false, false, false, false, false, false, false, false, false, false, false, false, false, false, false, false, false, false, false, false, false, false, false, false, false, false] : List (Bool)).getD y (true)
def mt_name (y : Nat) : MethodName := ([⟨"StepPile", "<init>", "()V"⟩, ⟨"StepPile", "symbol", "(I)I"⟩, ⟨"StepPile", "begin", "(I)I"⟩, ⟨"StepPile", "put", "(I)I"⟩, ⟨"StepPile", "need", "(I)I"⟩, ⟨"StepPile", "pair", "(II)I"⟩, ⟨"StepPile", "close", "()I"⟩, ⟨"StepPile", "apart", "(II)I"⟩, ⟨"StepPile", "step", "(I)I"⟩, ⟨"StepPile", "useAssertion", "(I)I"⟩, ⟨"StepPile", "allFit", "(II)Z"⟩, ⟨"StepPile", "allApart", "(II)Z"⟩, ⟨"StepPile", "hasRoom", "(II)Z"⟩, ⟨"StepPile", "putCopy", "(LStepPile$Rows;I)I"⟩, ⟨"StepPile", "settle", "(I)I"⟩, ⟨"StepPile", "dropAll", "()V"⟩, ⟨"StepPile", "save", "()I"⟩, ⟨"StepPile", "symbolsInAll", "()I"⟩, ⟨"StepPile", "again", "(I)I"⟩, ⟨"StepPile", "clear", "()I"⟩, ⟨"StepPile", "count", "(I)I"⟩, ⟨"StepPile", "length", "(I)I"⟩, ⟨"StepPile", "at", "(II)I"⟩, ⟨"StepPile", "told", "(II)I"⟩, ⟨"StepPile", "is", "(II)I"⟩, ⟨"StepPile", "check", "()I"⟩, ⟨"StepPile$Rows", "<init>", "(I)V"⟩, ⟨"StepPile$Rows", "isFull", "()Z"⟩, ⟨"StepPile$Rows", "rows", "()I"⟩, ⟨"StepPile$Rows", "addEmpty", "()V"⟩, ⟨"StepPile$Rows", "size", "(I)I"⟩, ⟨"StepPile$Rows", "has", "(I)Z"⟩, ⟨"StepPile$Rows", "append", "(I)V"⟩, ⟨"StepPile$Rows", "makeRoom", "(I)V"⟩, ⟨"StepPile$Rows", "get", "(II)I"⟩, ⟨"StepPile$Rows", "isSame", "(IILStepPile$Rows;III)Z"⟩, ⟨"StepPile$Rows", "hasPart", "(III)Z"⟩, ⟨"StepPile$Rows", "dropTo", "(I)V"⟩, ⟨"StepPile$Rows", "copyPart", "(III[II)V"⟩, ⟨"StepPile$Rows", "startOf", "(I)I"⟩, ⟨"StepPile$Rows", "total", "()I"⟩, ⟨"StepPile$Rows", "addFrom", "([II)V"⟩, ⟨"StepPile$Rows", "addPart", "([III)V"⟩, ⟨"StepPile$Rows", "addCopy", "(LStepPile$Rows;I)V"⟩, ⟨"StepPile$Rows", "isGapless", "()Z"⟩, ⟨"StepPile$Symbols", "<init>", "()V"⟩, ⟨"StepPile$Symbols", "add", "(I)I"⟩, ⟨"StepPile$Symbols", "has", "(I)Z"⟩, ⟨"StepPile$Symbols", "isConstant", "(I)Z"⟩, ⟨"StepPile$Symbols", "isVariable", "(I)Z"⟩, ⟨"StepPile$Symbols", "part", "(II)Z"⟩, ⟨"StepPile$Symbols", "areTwoVariables", "(II)Z"⟩, ⟨"StepPile$Symbols", "areParted", "(II)Z"⟩, ⟨"StepPile$Symbols", "bitOf", "(II)I"⟩, ⟨"StepPile$Symbols", "known", "()I"⟩, ⟨"StepPile$Statements", "<init>", "(LStepPile$Symbols;)V"⟩, ⟨"StepPile$Statements", "start", "(I)I"⟩, ⟨"StepPile$Statements", "addSymbol", "(I)I"⟩, ⟨"StepPile$Statements", "mayStandNext", "(I)Z"⟩, ⟨"StepPile$Statements", "kindOf", "(I)I"⟩, ⟨"StepPile$Statements", "addNeed", "(I)I"⟩, ⟨"StepPile$Statements", "isAssertionOpen", "()Z"⟩, ⟨"StepPile$Statements", "isClosedHypothesis", "(I)Z"⟩, ⟨"StepPile$Statements", "isClosed", "(I)Z"⟩, ⟨"StepPile$Statements", "mayBeNeeded", "(I)Z"⟩, ⟨"StepPile$Statements", "hasFloating", "(I)Z"⟩, ⟨"StepPile$Statements", "isNeeded", "(I)Z"⟩, ⟨"StepPile$Statements", "allHaveFloating", "(I)Z"⟩, ⟨"StepPile$Statements", "setFloating", "(I)V"⟩, ⟨"StepPile$Statements", "addPair", "(II)I"⟩, ⟨"StepPile$Statements", "isPair", "(II)Z"⟩, ⟨"StepPile$Statements", "finish", "()Z"⟩, ⟨"StepPile$Statements", "isWhole", "()Z"⟩, ⟨"StepPile$Becoming", "<init>", "(LStepPile$Symbols;LStepPile$Rows;)V"⟩, ⟨"StepPile$Becoming", "learn", "(LStepPile$Rows;II)Z"⟩, ⟨"StepPile$Becoming", "makes", "(LStepPile$Rows;II)Z"⟩, ⟨"StepPile$Becoming", "rowFor", "(I)I"⟩, ⟨"StepPile$Becoming", "listVariables", "(I)V"⟩, ⟨"StepPile$Becoming", "areApart", "(II)Z"⟩, ⟨"StepPile$Becoming", "write", "(LStepPile$Rows;I[I)I"⟩, ⟨"StepPileModel", "<init>", "()V"⟩, ⟨"StepPileModel", "symbol", "(I)I"⟩, ⟨"StepPileModel", "begin", "(I)I"⟩, ⟨"StepPileModel", "put", "(I)I"⟩, ⟨"StepPileModel", "last", "()I"⟩, ⟨"StepPileModel", "need", "(I)I"⟩, ⟨"StepPileModel", "isOpenAssertion", "()Z"⟩, ⟨"StepPileModel", "hasFloating", "(I)Z"⟩, ⟨"StepPileModel", "hasAll", "(I)Z"⟩, ⟨"StepPileModel", "pair", "(II)I"⟩, ⟨"StepPileModel", "isVariable", "(I)Z"⟩, ⟨"StepPileModel", "close", "()I"⟩, ⟨"StepPileModel", "apart", "(II)I"⟩, ⟨"StepPileModel", "areApart", "(II)Z"⟩, ⟨"StepPileModel", "step", "(I)I"⟩, ⟨"StepPileModel", "isClosed", "(I)Z"⟩, ⟨"StepPileModel", "assertion", "(I)I"⟩, ⟨"StepPileModel", "fail", "(I)I"⟩, ⟨"StepPileModel", "empty", "()V"⟩, ⟨"StepPileModel", "symbolOf", "(II)I"⟩, ⟨"StepPileModel", "isReplaced", "(II)Z"⟩, ⟨"StepPileModel", "doStayApart", "(II)Z"⟩, ⟨"StepPileModel", "make", "(I)Z"⟩, ⟨"StepPileModel", "pushMade", "()I"⟩, ⟨"StepPileModel", "allSymbols", "()I"⟩, ⟨"StepPileModel", "save", "()I"⟩, ⟨"StepPileModel", "again", "(I)I"⟩, ⟨"StepPileModel", "clear", "()I"⟩, ⟨"StepPileModel", "count", "(I)I"⟩, ⟨"StepPileModel", "length", "(I)I"⟩, ⟨"StepPileModel", "isRow", "(I)Z"⟩, ⟨"StepPileModel", "at", "(II)I"⟩, ⟨"StepPileModel", "told", "(II)I"⟩, ⟨"StepPileModel", "is", "(II)I"⟩, ⟨"StepPileModel", "check", "()I"⟩, ⟨"java/util/Arrays", "fill", "([II)V"⟩, ⟨"java/util/Arrays", "copyOf", "([II)[I"⟩, ⟨"StepPileLaw", "law", "([I)Z"⟩] : List (MethodName)).getD y (⟨"StepPile", "<init>", "()V"⟩)
def mt_ret (y : Nat) : Option FieldType := ([none, some (FieldType.int), some (FieldType.int), some (FieldType.int), some (FieldType.int), some (FieldType.int), some (FieldType.int), some (FieldType.int), some (FieldType.int), some (FieldType.int), some (FieldType.boolean), some (FieldType.boolean), some (FieldType.boolean), some (FieldType.int), some (FieldType.int), none, some (FieldType.int), some (FieldType.int), some (FieldType.int), some (FieldType.int), some (FieldType.int), some (FieldType.int), some (FieldType.int), some (FieldType.int), some (FieldType.int), some (FieldType.int), none, some (FieldType.boolean), some (FieldType.int), none, some (FieldType.int), some (FieldType.boolean), none, none, some (FieldType.int), some (FieldType.boolean), some (FieldType.boolean), none, none, some (FieldType.int), some (FieldType.int), none, none, none, some (FieldType.boolean), none, some (FieldType.int), some (FieldType.boolean), some (FieldType.boolean), some (FieldType.boolean), some (FieldType.boolean), some (FieldType.boolean), some (FieldType.boolean), some (FieldType.int), some (FieldType.int), none, some (FieldType.int), some (FieldType.int), some (FieldType.boolean), some (FieldType.int), some (FieldType.int), some (FieldType.boolean), some (FieldType.boolean), some (FieldType.boolean), some (FieldType.boolean), some (FieldType.boolean), some (FieldType.boolean), some (FieldType.boolean), none, some (FieldType.int), some (FieldType.boolean), some (FieldType.boolean), some (FieldType.boolean), none, some (FieldType.boolean), some (FieldType.boolean), some (FieldType.int), none, some (FieldType.boolean), some (FieldType.int), none, some (FieldType.int), some (FieldType.int), some (FieldType.int), some (FieldType.int), some (FieldType.int), some (FieldType.boolean), some (FieldType.boolean), some (FieldType.boolean), some (FieldType.int), some (FieldType.boolean), some (FieldType.int), some (FieldType.int), some (FieldType.boolean), some (FieldType.int), some (FieldType.boolean), some (FieldType.int), some (FieldType.int), none, some (FieldType.int), some (FieldType.boolean), some (FieldType.boolean), some (FieldType.boolean), some (FieldType.int), some (FieldType.int), some (FieldType.int), some (FieldType.int), some (FieldType.int), some (FieldType.int), some (FieldType.int), some (FieldType.boolean), some (FieldType.int), some (FieldType.int), some (FieldType.int), some (FieldType.int), none, some ((FieldType.array FieldType.int)), some .boolean] : List (Option FieldType)).getD y (none)
-- 0: StepPile.<init>()V
-- 1: StepPile.symbol(I)I
-- 2: StepPile.begin(I)I
-- 3: StepPile.put(I)I
-- 4: StepPile.need(I)I
-- 5: StepPile.pair(II)I
-- 6: StepPile.close()I
-- 7: StepPile.apart(II)I
-- 8: StepPile.step(I)I
-- 9: StepPile.useAssertion(I)I
-- 10: StepPile.allFit(II)Z
-- 11: StepPile.allApart(II)Z
-- 12: StepPile.hasRoom(II)Z
-- 13: StepPile.putCopy(LStepPile$Rows;I)I
-- 14: StepPile.settle(I)I
-- 15: StepPile.dropAll()V
-- 16: StepPile.save()I
-- 17: StepPile.symbolsInAll()I
-- 18: StepPile.again(I)I
-- 19: StepPile.clear()I
-- 20: StepPile.count(I)I
-- 21: StepPile.length(I)I
-- 22: StepPile.at(II)I
-- 23: StepPile.told(II)I
-- 24: StepPile.is(II)I
-- 25: StepPile.check()I
-- 26: StepPile$Rows.<init>(I)V
-- 27: StepPile$Rows.isFull()Z
-- 28: StepPile$Rows.rows()I
-- 29: StepPile$Rows.addEmpty()V
-- 30: StepPile$Rows.size(I)I
-- 31: StepPile$Rows.has(I)Z
-- 32: StepPile$Rows.append(I)V
-- 33: StepPile$Rows.makeRoom(I)V
-- 34: StepPile$Rows.get(II)I
-- 35: StepPile$Rows.isSame(IILStepPile$Rows;III)Z
-- 36: StepPile$Rows.hasPart(III)Z
-- 37: StepPile$Rows.dropTo(I)V
-- 38: StepPile$Rows.copyPart(III[II)V
-- 39: StepPile$Rows.startOf(I)I
-- 40: StepPile$Rows.total()I
-- 41: StepPile$Rows.addFrom([II)V
-- 42: StepPile$Rows.addPart([III)V
-- 43: StepPile$Rows.addCopy(LStepPile$Rows;I)V
-- 44: StepPile$Rows.isGapless()Z
-- 45: StepPile$Symbols.<init>()V
-- 46: StepPile$Symbols.add(I)I
-- 47: StepPile$Symbols.has(I)Z
-- 48: StepPile$Symbols.isConstant(I)Z
-- 49: StepPile$Symbols.isVariable(I)Z
-- 50: StepPile$Symbols.part(II)Z
-- 51: StepPile$Symbols.areTwoVariables(II)Z
-- 52: StepPile$Symbols.areParted(II)Z
-- 53: StepPile$Symbols.bitOf(II)I
-- 54: StepPile$Symbols.known()I
-- 55: StepPile$Statements.<init>(LStepPile$Symbols;)V
-- 56: StepPile$Statements.start(I)I
-- 57: StepPile$Statements.addSymbol(I)I
-- 58: StepPile$Statements.mayStandNext(I)Z
-- 59: StepPile$Statements.kindOf(I)I
-- 60: StepPile$Statements.addNeed(I)I
-- 61: StepPile$Statements.isAssertionOpen()Z
-- 62: StepPile$Statements.isClosedHypothesis(I)Z
-- 63: StepPile$Statements.isClosed(I)Z
-- 64: StepPile$Statements.mayBeNeeded(I)Z
-- 65: StepPile$Statements.hasFloating(I)Z
-- 66: StepPile$Statements.isNeeded(I)Z
-- 67: StepPile$Statements.allHaveFloating(I)Z
-- 68: StepPile$Statements.setFloating(I)V
-- 69: StepPile$Statements.addPair(II)I
-- 70: StepPile$Statements.isPair(II)Z
-- 71: StepPile$Statements.finish()Z
-- 72: StepPile$Statements.isWhole()Z
-- 73: StepPile$Becoming.<init>(LStepPile$Symbols;LStepPile$Rows;)V
-- 74: StepPile$Becoming.learn(LStepPile$Rows;II)Z
-- 75: StepPile$Becoming.makes(LStepPile$Rows;II)Z
-- 76: StepPile$Becoming.rowFor(I)I
-- 77: StepPile$Becoming.listVariables(I)V
-- 78: StepPile$Becoming.areApart(II)Z
-- 79: StepPile$Becoming.write(LStepPile$Rows;I[I)I
-- 80: StepPileModel.<init>()V
-- 81: StepPileModel.symbol(I)I
-- 82: StepPileModel.begin(I)I
-- 83: StepPileModel.put(I)I
-- 84: StepPileModel.last()I
-- 85: StepPileModel.need(I)I
-- 86: StepPileModel.isOpenAssertion()Z
-- 87: StepPileModel.hasFloating(I)Z
-- 88: StepPileModel.hasAll(I)Z
-- 89: StepPileModel.pair(II)I
-- 90: StepPileModel.isVariable(I)Z
-- 91: StepPileModel.close()I
-- 92: StepPileModel.apart(II)I
-- 93: StepPileModel.areApart(II)Z
-- 94: StepPileModel.step(I)I
-- 95: StepPileModel.isClosed(I)Z
-- 96: StepPileModel.assertion(I)I
-- 97: StepPileModel.fail(I)I
-- 98: StepPileModel.empty()V
-- 99: StepPileModel.symbolOf(II)I
-- 100: StepPileModel.isReplaced(II)Z
-- 101: StepPileModel.doStayApart(II)Z
-- 102: StepPileModel.make(I)Z
-- 103: StepPileModel.pushMade()I
-- 104: StepPileModel.allSymbols()I
-- 105: StepPileModel.save()I
-- 106: StepPileModel.again(I)I
-- 107: StepPileModel.clear()I
-- 108: StepPileModel.count(I)I
-- 109: StepPileModel.length(I)I
-- 110: StepPileModel.isRow(I)Z
-- 111: StepPileModel.at(II)I
-- 112: StepPileModel.told(II)I
-- 113: StepPileModel.is(II)I
-- 114: StepPileModel.check()I
-- 115: java/util/Arrays.fill([II)V
-- 116: java/util/Arrays.copyOf([II)[I
def tb_flds : List (Nat × Nat × Nat × Nat × Nat × Bool) := [(2, 11, 2, 0, 1, true), (2, 15, 2, 1, 1, true), (2, 19, 2, 2, 0, false), (1, 11, 1, 0, 1, false), (1, 25, 1, 1, 1, true), (1, 15, 1, 2, 0, false), (3, 14, 3, 0, 1, true), (0, 85, 3, 0, 9, true), (3, 20, 3, 1, 1, true), (0, 125, 3, 1, 9, true), (3, 23, 3, 2, 1, true), (0, 128, 3, 2, 9, true), (3, 37, 3, 3, 1, true), (3, 26, 3, 4, 1, true), (3, 30, 3, 5, 1, true), (3, 33, 3, 6, 0, false), (4, 34, 4, 0, 1, true), (4, 38, 4, 1, 1, true), (4, 9, 4, 2, 1, true), (4, 20, 4, 3, 1, true), (4, 24, 4, 4, 0, false), (4, 28, 4, 5, 1, true), (4, 31, 4, 6, 0, false), (0, 10, 0, 0, 1, true), (0, 21, 0, 1, 1, true), (0, 30, 0, 2, 1, true), (0, 34, 0, 3, 1, true), (0, 42, 0, 4, 1, true), (0, 46, 0, 5, 1, true), (5, 64, 5, 0, 0, false), (5, 7, 5, 1, 1, true), (5, 68, 5, 2, 0, false), (5, 13, 5, 3, 1, true), (5, 18, 5, 4, 1, true), (5, 21, 5, 5, 1, true), (5, 24, 5, 6, 1, true), (5, 27, 5, 7, 1, true), (5, 31, 5, 8, 1, true), (5, 34, 5, 9, 1, true), (5, 37, 5, 10, 1, true), (5, 75, 5, 11, 0, false), (5, 71, 5, 12, 2, false), (5, 40, 5, 13, 1, true), (5, 45, 5, 14, 1, true), (5, 48, 5, 15, 1, true), (5, 100, 5, 16, 0, false), (5, 52, 5, 17, 1, true), (5, 55, 5, 18, 1, true), (5, 103, 5, 19, 0, false), (5, 58, 5, 20, 1, true), (5, 112, 5, 21, 0, false), (5, 61, 5, 22, 1, true)]
def tb_fld (o n : Nat) : Option (Nat × Nat × Nat × Bool) := (tb_flds.find? (fun e => e.1 == o && e.2.1 == n)).map (fun e => e.2.2)
def tb_mths : List (Nat × Nat × Nat × Nat × Nat × Nat) := [(6, 9, 2, 0, 0, 0), (0, 1, 7, 0, 0, 0), (2, 5, 7, 0, 0, 0), (0, 18, 2, 55, 1, 3), (3, 3, 7, 0, 0, 0), (3, 11, 2, 26, 1, 1), (1, 3, 7, 0, 0, 0), (1, 19, 4, 0, 2, 0), (3, 41, 1, 115, 2, 0), (0, 27, 2, 26, 1, 1), (0, 39, 2, 73, 2, 4), (4, 3, 7, 0, 0, 0), (4, 17, 2, 26, 1, 1), (6, 13, 0, 1, 1, 0), (0, 50, 0, 46, 1, 2), (6, 18, 0, 2, 1, 0), (0, 54, 0, 56, 1, 3), (3, 58, 0, 27, 0, 1), (3, 62, 0, 28, 0, 1), (3, 66, 0, 29, 0, 1), (1, 42, 0, 27, 0, 1), (6, 22, 0, 3, 1, 0), (0, 57, 0, 57, 1, 3), (3, 69, 0, 47, 1, 2), (3, 72, 0, 58, 1, 3), (3, 75, 0, 30, 1, 1), (1, 28, 0, 31, 1, 1), (3, 81, 0, 48, 1, 2), (3, 51, 0, 59, 1, 3), (3, 47, 0, 31, 1, 1), (3, 84, 0, 49, 1, 2), (3, 78, 0, 32, 1, 1), (1, 46, 0, 33, 1, 1), (1, 58, 1, 116, 2, 0), (7, 304, 5, 0, 2, 0), (7, 150, 6, 0, 5, 0), (6, 26, 0, 4, 1, 0), (0, 60, 0, 60, 1, 3), (3, 87, 0, 61, 0, 3), (3, 90, 0, 62, 1, 3), (3, 55, 0, 63, 1, 3), (3, 93, 0, 64, 1, 3), (3, 96, 0, 34, 2, 1), (3, 103, 0, 65, 1, 3), (3, 106, 0, 66, 1, 3), (3, 109, 0, 67, 1, 3), (3, 100, 0, 68, 1, 3), (6, 30, 0, 5, 2, 0), (0, 63, 0, 69, 2, 3), (3, 112, 0, 70, 2, 3), (6, 35, 0, 6, 0, 0), (0, 67, 0, 71, 0, 3), (3, 116, 0, 72, 0, 3), (6, 40, 0, 7, 2, 0), (0, 71, 0, 50, 2, 2), (2, 27, 0, 51, 2, 2), (2, 23, 0, 49, 1, 2), (2, 31, 0, 52, 2, 2), (2, 34, 1, 53, 2, 0), (2, 38, 5, 0, 2, 0), (2, 43, 4, 0, 2, 0), (6, 44, 0, 8, 1, 0), (0, 75, 0, 63, 1, 3), (0, 79, 0, 59, 1, 3), (0, 82, 0, 9, 1, 0), (0, 95, 0, 28, 0, 1), (0, 105, 0, 30, 1, 1), (0, 153, 0, 10, 2, 0), (0, 122, 0, 34, 2, 1), (0, 167, 0, 74, 3, 4), (4, 47, 0, 34, 2, 1), (4, 51, 0, 30, 1, 1), (4, 41, 0, 49, 1, 2), (0, 171, 0, 75, 3, 4), (4, 55, 0, 76, 1, 4), (4, 58, 0, 35, 6, 1), (1, 32, 0, 36, 3, 1), (0, 156, 0, 11, 2, 0), (0, 174, 0, 77, 1, 4), (4, 71, 0, 37, 1, 1), (4, 74, 0, 28, 0, 1), (4, 78, 0, 29, 0, 1), (4, 81, 0, 32, 1, 1), (0, 177, 0, 78, 2, 4), (4, 84, 0, 52, 2, 2), (0, 159, 0, 79, 3, 4), (4, 62, 4, 0, 2, 0), (4, 67, 0, 38, 5, 1), (1, 36, 6, 0, 5, 0), (0, 150, 0, 12, 2, 0), (0, 147, 0, 39, 1, 1), (0, 141, 0, 40, 0, 1), (0, 144, 0, 37, 1, 1), (0, 163, 0, 41, 2, 1), (1, 50, 0, 42, 3, 1), (0, 88, 0, 13, 2, 0), (0, 109, 0, 43, 2, 1), (1, 54, 0, 30, 1, 1), (0, 92, 0, 14, 1, 0), (0, 116, 0, 15, 0, 0), (6, 48, 0, 16, 0, 0), (0, 99, 0, 27, 0, 1), (0, 102, 0, 17, 0, 0), (6, 52, 0, 18, 1, 0), (0, 113, 0, 31, 1, 1), (6, 56, 0, 19, 0, 0), (6, 60, 0, 20, 1, 0), (0, 119, 0, 54, 0, 2), (6, 64, 0, 21, 1, 0), (6, 68, 0, 22, 2, 0), (6, 72, 0, 23, 2, 0), (6, 76, 0, 24, 2, 0), (0, 131, 0, 35, 6, 1), (6, 80, 0, 25, 0, 0), (0, 135, 0, 48, 1, 2), (0, 138, 0, 44, 0, 1), (6, 12, 2, 80, 0, 5), (5, 1, 7, 0, 0, 0), (6, 17, 0, 81, 1, 5), (6, 21, 0, 82, 1, 5), (6, 25, 0, 83, 1, 5), (5, 78, 0, 84, 0, 5), (6, 29, 0, 85, 1, 5), (5, 86, 0, 86, 0, 5), (5, 82, 0, 87, 1, 5), (5, 90, 0, 88, 1, 5), (6, 34, 0, 89, 2, 5), (5, 93, 0, 90, 1, 5), (6, 39, 0, 91, 0, 5), (6, 43, 0, 92, 2, 5), (5, 96, 0, 93, 2, 5), (6, 47, 0, 94, 1, 5), (5, 136, 0, 95, 1, 5), (5, 139, 0, 96, 1, 5), (5, 116, 0, 97, 1, 5), (5, 106, 0, 98, 0, 5), (5, 120, 0, 99, 2, 5), (5, 124, 0, 100, 2, 5), (5, 127, 0, 101, 2, 5), (5, 130, 0, 102, 1, 5), (5, 133, 0, 103, 0, 5), (5, 109, 0, 104, 0, 5), (6, 51, 0, 105, 0, 5), (6, 55, 0, 106, 1, 5), (6, 59, 0, 107, 0, 5), (6, 63, 0, 108, 1, 5), (6, 67, 0, 109, 1, 5), (5, 142, 0, 110, 1, 5), (6, 71, 0, 111, 2, 5), (6, 75, 0, 112, 2, 5), (6, 79, 0, 113, 2, 5), (6, 83, 0, 114, 0, 5), (0, 9, 3, 45, 0, 2)]
def tb_mth (o n : Nat) : Option (Nat × Nat × Nat × Nat) := (tb_mths.find? (fun e => e.1 == o && e.2.1 == n)).map (fun e => e.2.2)
def tb_news : List (Nat × Nat × Nat × List Value) := [(6, 7, 0, [.null, .null, .null, .null, .null, .null]), (0, 7, 2, [.null, .null, .int 0]), (0, 16, 3, [.null, .null, .null, .null, .null, .null, .int 0]), (3, 9, 1, [.null, .null, .int 0]), (0, 25, 1, [.null, .null, .int 0]), (0, 37, 4, [.null, .null, .null, .null, .int 0, .null, .int 0]), (4, 15, 1, [.null, .null, .int 0]), (6, 10, 5, [.int 0, .null, .int 0, .null, .null, .null, .null, .null, .null, .null, .null, .int 0, .int 0, .null, .null, .null, .int 0, .null, .null, .int 0, .null, .int 0, .null])]
def tb_new (o n : Nat) : Option (Nat × List Value) := (tb_news.find? (fun e => e.1 == o && e.2.1 == n)).map (fun e => e.2.2)
def tb_ldcs : List (Nat × Nat × Int32) := [(0, 108, 40000), (5, 17, 90000), (5, 30, 60000), (5, 44, 201000), (5, 51, 300000), (5, 115, 40000)]
def tb_ldc (o n : Nat) : Option Int32 := (tb_ldcs.find? (fun e => e.1 == o && e.2.1 == n)).map (fun e => e.2.2)
def en_nl : List (String × Nat × MethodName × String) := [("StepPile", 9, ⟨"StepPile$Symbols", "<init>", "()V"⟩, "StepPile")]
def tp_flds : List Nat := [64, 65, 66, 91, 92, 93, 105, 106, 107, 108, 109, 110, 111, 112, 113, 114, 140, 141, 142, 143, 144, 145, 146, 162, 163, 164, 165, 166, 167, 532, 533, 534, 535, 536, 537, 538, 539, 540, 541, 542, 543, 544, 545, 546, 547, 548, 549, 550, 551, 552, 553, 554]
def tp_mths : List (List Nat) := [[52, 53], [55, 56, 57], [63, 56, 57], [78, 79], [81, 56, 57], [84, 85], [87, 56, 57], [88, 89, 45, 90], [102, 103], [131, 85], [134, 135], [137, 56, 57], [139, 85], [181, 182, 183], [185, 186, 187], [189, 190, 191], [193, 194, 195], [197, 198, 199], [201, 202, 203], [205, 206, 207], [209, 198, 199], [210, 211, 212], [214, 215, 216], [218, 219, 220], [222, 224, 0], [226, 227, 228], [230, 231, 232], [234, 235, 236], [238, 239, 240], [242, 231, 232], [243, 244, 245], [247, 248, 249], [251, 253, 1], [255, 256], [265, 266, 45, 267], [268, 270, 269, 49], [271, 272, 273], [275, 276, 277], [279, 281, 2], [283, 285, 3], [287, 288, 289], [291, 293, 4], [295, 296, 297], [299, 301, 5], [303, 305, 6], [307, 309, 7], [311, 313, 8], [315, 316, 317], [319, 320, 321], [323, 325, 9], [327, 328, 329], [331, 332, 333], [335, 337, 10], [339, 340, 341], [343, 344, 345], [347, 349, 11], [351, 244, 245], [352, 353, 354], [356, 357], [359, 266, 45, 267], [360, 89, 45, 90], [361, 362, 363], [365, 288, 289], [366, 239, 240], [367, 369, 12], [371, 202, 203], [372, 227, 228], [373, 375, 13], [377, 296, 297], [378, 379, 380], [382, 296, 297], [383, 227, 228], [384, 244, 245], [385, 386, 387], [389, 391, 14], [393, 394, 395], [397, 399, 15], [401, 403, 16], [405, 406, 407], [409, 410, 411], [413, 202, 203], [414, 206, 207], [415, 248, 249], [416, 417, 418], [420, 353, 354], [421, 422, 423], [425, 89, 45, 90], [426, 427, 428], [430, 270, 269, 49], [431, 433, 17], [435, 436, 437], [439, 440, 441], [444, 410, 411], [445, 446, 447], [449, 451, 18], [453, 455, 19], [457, 458, 459], [461, 227, 228], [462, 464, 20], [466, 468, 21], [470, 471, 472], [474, 198, 199], [475, 477, 22], [479, 480, 481], [483, 231, 232], [484, 485, 486], [488, 489, 490], [492, 493, 494], [496, 497, 498], [500, 501, 502], [504, 505, 506], [508, 509, 510], [512, 394, 395], [513, 514, 515], [517, 235, 236], [518, 519, 520], [524, 525], [527, 56, 57], [602, 603, 604], [606, 607, 608], [610, 611, 612], [614, 616, 23], [618, 619, 620], [622, 624, 24], [626, 628, 25], [630, 632, 26], [634, 635, 636], [638, 640, 27], [642, 643, 644], [646, 647, 648], [650, 652, 28], [654, 655, 656], [658, 660, 29], [662, 664, 30], [666, 668, 31], [670, 672, 32], [674, 676, 33], [678, 680, 34], [682, 684, 35], [686, 688, 36], [690, 692, 37], [694, 696, 38], [699, 700, 701], [703, 704, 705], [707, 708, 709], [711, 712, 713], [715, 716, 717], [719, 721, 39], [723, 724, 725], [727, 728, 729], [731, 732, 733], [735, 736, 737], [61]]
def tp_y : List (Nat × Nat) := [(54, 41), (184, 41), (192, 41), (213, 41), (274, 41), (318, 41), (330, 41), (342, 41), (364, 41), (370, 41), (376, 41), (404, 41), (434, 41), (456, 41), (465, 41), (469, 41), (473, 41), (478, 41), (482, 41), (487, 41), (491, 41), (499, 41), (503, 41), (507, 41), (511, 41), (516, 41), (86, 44), (200, 44), (204, 44), (208, 44), (229, 44), (233, 44), (250, 44), (254, 44), (298, 44), (396, 44), (400, 44), (412, 44), (429, 44), (438, 44), (442, 44), (448, 44), (452, 44), (460, 44), (521, 44), (62, 42), (188, 42), (221, 42), (237, 42), (246, 42), (346, 42), (350, 42), (355, 42), (358, 42), (495, 42), (80, 43), (196, 43), (217, 43), (225, 43), (241, 43), (278, 43), (282, 43), (286, 43), (290, 43), (294, 43), (302, 43), (306, 43), (310, 43), (314, 43), (322, 43), (326, 43), (334, 43), (338, 43), (136, 47), (381, 47), (388, 47), (392, 47), (408, 47), (419, 47), (424, 47), (526, 48), (605, 48), (609, 48), (613, 48), (617, 48), (621, 48), (625, 48), (629, 48), (633, 48), (637, 48), (641, 48), (645, 48), (649, 48), (653, 48), (657, 48), (661, 48), (665, 48), (669, 48), (673, 48), (677, 48), (681, 48), (685, 48), (689, 48), (693, 48), (697, 48), (702, 48), (706, 48), (710, 48), (714, 48), (718, 48), (722, 48), (726, 48), (730, 48), (734, 48), (738, 48), (104, 46), (257, 46)]
def tp_news : List (List Nat) := [[50, 51, 41], [58, 59, 42], [76, 77, 43], [82, 83, 44], [130, 83, 44], [132, 133, 47], [138, 83, 44], [522, 523, 48]]
def tp_ldcs : List Nat := [443, 528, 529, 530, 531, 698]
def tp_arr : List Nat := [101, 75, 74]
def tp_cls : List (List Nat) := [[168, 170, 172, 174, 176, 178], [94, 96, 98], [67, 69, 71], [115, 117, 119, 121, 123, 125, 127], [147, 149, 151, 153, 155, 157, 159], [555, 557, 559, 561, 563, 565, 567, 569, 571, 573, 575, 577, 579, 581, 583, 585, 587, 589, 591, 593, 595, 597, 599]]
def en_T0 : List Cond := lw_tbl.filter goodWord
