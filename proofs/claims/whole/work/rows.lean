section
-- ===== PART A: goes FIRST, ahead of the names: the tables' words, and 'selects' of the private methods out of them =====
/-- a private method of a class that the tables say can be made, by its rows of tables_1 -/
def lw_okq (q : MethodName × Nat) : Prop := (q.1.cls ≠ "java/lang/invoke/MethodHandle" ∧ q.1.cls ≠ "java/lang/invoke/VarHandle") ∧ Cond.instantiable q.1.cls q.2 ∈ tables_1 ∧ Cond.privateMethod q.1 ∈ tables_1 ∧ Cond.instanceMethod q.1 ∈ tables_1
theorem lw_p0 : lw_okq (⟨"StepPile$Statements", "mayStandNext", "(I)Z"⟩, 7) := ⟨⟨by decide +kernel, by decide +kernel⟩, List.mem_of_getElem? (i := 37) (by decide +kernel), List.mem_of_getElem? (i := 183) (by decide +kernel), List.mem_of_getElem? (i := 184) (by decide +kernel)⟩
theorem lw_p1 : lw_okq (⟨"StepPile$Rows", "makeRoom", "(I)V"⟩, 3) := ⟨⟨by decide +kernel, by decide +kernel⟩, List.mem_of_getElem? (i := 43) (by decide +kernel), List.mem_of_getElem? (i := 212) (by decide +kernel), List.mem_of_getElem? (i := 213) (by decide +kernel)⟩
theorem lw_p2 : lw_okq (⟨"StepPile$Statements", "isAssertionOpen", "()Z"⟩, 7) := ⟨⟨by decide +kernel, by decide +kernel⟩, List.mem_of_getElem? (i := 37) (by decide +kernel), List.mem_of_getElem? (i := 240) (by decide +kernel), List.mem_of_getElem? (i := 241) (by decide +kernel)⟩
theorem lw_p3 : lw_okq (⟨"StepPile$Statements", "isClosedHypothesis", "(I)Z"⟩, 7) := ⟨⟨by decide +kernel, by decide +kernel⟩, List.mem_of_getElem? (i := 37) (by decide +kernel), List.mem_of_getElem? (i := 244) (by decide +kernel), List.mem_of_getElem? (i := 245) (by decide +kernel)⟩
theorem lw_p4 : lw_okq (⟨"StepPile$Statements", "mayBeNeeded", "(I)Z"⟩, 7) := ⟨⟨by decide +kernel, by decide +kernel⟩, List.mem_of_getElem? (i := 37) (by decide +kernel), List.mem_of_getElem? (i := 252) (by decide +kernel), List.mem_of_getElem? (i := 253) (by decide +kernel)⟩
theorem lw_p5 : lw_okq (⟨"StepPile$Statements", "hasFloating", "(I)Z"⟩, 7) := ⟨⟨by decide +kernel, by decide +kernel⟩, List.mem_of_getElem? (i := 37) (by decide +kernel), List.mem_of_getElem? (i := 260) (by decide +kernel), List.mem_of_getElem? (i := 261) (by decide +kernel)⟩
theorem lw_p6 : lw_okq (⟨"StepPile$Statements", "isNeeded", "(I)Z"⟩, 7) := ⟨⟨by decide +kernel, by decide +kernel⟩, List.mem_of_getElem? (i := 37) (by decide +kernel), List.mem_of_getElem? (i := 264) (by decide +kernel), List.mem_of_getElem? (i := 265) (by decide +kernel)⟩
theorem lw_p7 : lw_okq (⟨"StepPile$Statements", "allHaveFloating", "(I)Z"⟩, 7) := ⟨⟨by decide +kernel, by decide +kernel⟩, List.mem_of_getElem? (i := 37) (by decide +kernel), List.mem_of_getElem? (i := 268) (by decide +kernel), List.mem_of_getElem? (i := 269) (by decide +kernel)⟩
theorem lw_p8 : lw_okq (⟨"StepPile$Statements", "setFloating", "(I)V"⟩, 7) := ⟨⟨by decide +kernel, by decide +kernel⟩, List.mem_of_getElem? (i := 37) (by decide +kernel), List.mem_of_getElem? (i := 272) (by decide +kernel), List.mem_of_getElem? (i := 273) (by decide +kernel)⟩
theorem lw_p9 : lw_okq (⟨"StepPile$Statements", "isPair", "(II)Z"⟩, 7) := ⟨⟨by decide +kernel, by decide +kernel⟩, List.mem_of_getElem? (i := 37) (by decide +kernel), List.mem_of_getElem? (i := 284) (by decide +kernel), List.mem_of_getElem? (i := 285) (by decide +kernel)⟩
theorem lw_p10 : lw_okq (⟨"StepPile$Statements", "isWhole", "()Z"⟩, 7) := ⟨⟨by decide +kernel, by decide +kernel⟩, List.mem_of_getElem? (i := 37) (by decide +kernel), List.mem_of_getElem? (i := 296) (by decide +kernel), List.mem_of_getElem? (i := 297) (by decide +kernel)⟩
theorem lw_p11 : lw_okq (⟨"StepPile$Symbols", "areTwoVariables", "(II)Z"⟩, 3) := ⟨⟨by decide +kernel, by decide +kernel⟩, List.mem_of_getElem? (i := 19) (by decide +kernel), List.mem_of_getElem? (i := 308) (by decide +kernel), List.mem_of_getElem? (i := 309) (by decide +kernel)⟩
theorem lw_p12 : lw_okq (⟨"StepPile", "useAssertion", "(I)I"⟩, 6) := ⟨⟨by decide +kernel, by decide +kernel⟩, List.mem_of_getElem? (i := 11) (by decide +kernel), List.mem_of_getElem? (i := 328) (by decide +kernel), List.mem_of_getElem? (i := 329) (by decide +kernel)⟩
theorem lw_p13 : lw_okq (⟨"StepPile", "allFit", "(II)Z"⟩, 6) := ⟨⟨by decide +kernel, by decide +kernel⟩, List.mem_of_getElem? (i := 11) (by decide +kernel), List.mem_of_getElem? (i := 334) (by decide +kernel), List.mem_of_getElem? (i := 335) (by decide +kernel)⟩
theorem lw_p14 : lw_okq (⟨"StepPile$Becoming", "rowFor", "(I)I"⟩, 7) := ⟨⟨by decide +kernel, by decide +kernel⟩, List.mem_of_getElem? (i := 93) (by decide +kernel), List.mem_of_getElem? (i := 350) (by decide +kernel), List.mem_of_getElem? (i := 351) (by decide +kernel)⟩
theorem lw_p15 : lw_okq (⟨"StepPile$Rows", "hasPart", "(III)Z"⟩, 3) := ⟨⟨by decide +kernel, by decide +kernel⟩, List.mem_of_getElem? (i := 43) (by decide +kernel), List.mem_of_getElem? (i := 358) (by decide +kernel), List.mem_of_getElem? (i := 359) (by decide +kernel)⟩
def lw_privs_1 : List (MethodName × Nat) := [(⟨"StepPile$Statements", "mayStandNext", "(I)Z"⟩, 7), (⟨"StepPile$Rows", "makeRoom", "(I)V"⟩, 3), (⟨"StepPile$Statements", "isAssertionOpen", "()Z"⟩, 7), (⟨"StepPile$Statements", "isClosedHypothesis", "(I)Z"⟩, 7), (⟨"StepPile$Statements", "mayBeNeeded", "(I)Z"⟩, 7), (⟨"StepPile$Statements", "hasFloating", "(I)Z"⟩, 7), (⟨"StepPile$Statements", "isNeeded", "(I)Z"⟩, 7), (⟨"StepPile$Statements", "allHaveFloating", "(I)Z"⟩, 7), (⟨"StepPile$Statements", "setFloating", "(I)V"⟩, 7), (⟨"StepPile$Statements", "isPair", "(II)Z"⟩, 7), (⟨"StepPile$Statements", "isWhole", "()Z"⟩, 7), (⟨"StepPile$Symbols", "areTwoVariables", "(II)Z"⟩, 3), (⟨"StepPile", "useAssertion", "(I)I"⟩, 6), (⟨"StepPile", "allFit", "(II)Z"⟩, 6), (⟨"StepPile$Becoming", "rowFor", "(I)I"⟩, 7), (⟨"StepPile$Rows", "hasPart", "(III)Z"⟩, 3)]
theorem lw_r1 : ∀ q ∈ lw_privs_1, lw_okq q := List.forall_mem_cons.mpr ⟨lw_p0, List.forall_mem_cons.mpr ⟨lw_p1, List.forall_mem_cons.mpr ⟨lw_p2, List.forall_mem_cons.mpr ⟨lw_p3, List.forall_mem_cons.mpr ⟨lw_p4, List.forall_mem_cons.mpr ⟨lw_p5, List.forall_mem_cons.mpr ⟨lw_p6, List.forall_mem_cons.mpr ⟨lw_p7, List.forall_mem_cons.mpr ⟨lw_p8, List.forall_mem_cons.mpr ⟨lw_p9, List.forall_mem_cons.mpr ⟨lw_p10, List.forall_mem_cons.mpr ⟨lw_p11, List.forall_mem_cons.mpr ⟨lw_p12, List.forall_mem_cons.mpr ⟨lw_p13, List.forall_mem_cons.mpr ⟨lw_p14, List.forall_mem_cons.mpr ⟨lw_p15, fun _ h => absurd h List.not_mem_nil⟩⟩⟩⟩⟩⟩⟩⟩⟩⟩⟩⟩⟩⟩⟩⟩
theorem lw_p16 : lw_okq (⟨"StepPile", "allApart", "(II)Z"⟩, 6) := ⟨⟨by decide +kernel, by decide +kernel⟩, List.mem_of_getElem? (i := 11) (by decide +kernel), List.mem_of_getElem? (i := 362) (by decide +kernel), List.mem_of_getElem? (i := 363) (by decide +kernel)⟩
theorem lw_p17 : lw_okq (⟨"StepPile", "hasRoom", "(II)Z"⟩, 6) := ⟨⟨by decide +kernel, by decide +kernel⟩, List.mem_of_getElem? (i := 11) (by decide +kernel), List.mem_of_getElem? (i := 392) (by decide +kernel), List.mem_of_getElem? (i := 393) (by decide +kernel)⟩
theorem lw_p18 : lw_okq (⟨"StepPile$Rows", "addPart", "([III)V"⟩, 3) := ⟨⟨by decide +kernel, by decide +kernel⟩, List.mem_of_getElem? (i := 43) (by decide +kernel), List.mem_of_getElem? (i := 410) (by decide +kernel), List.mem_of_getElem? (i := 411) (by decide +kernel)⟩
theorem lw_p19 : lw_okq (⟨"StepPile", "putCopy", "(LStepPile$Rows;I)I"⟩, 6) := ⟨⟨by decide +kernel, by decide +kernel⟩, List.mem_of_getElem? (i := 11) (by decide +kernel), List.mem_of_getElem? (i := 414) (by decide +kernel), List.mem_of_getElem? (i := 415) (by decide +kernel)⟩
theorem lw_p20 : lw_okq (⟨"StepPile", "settle", "(I)I"⟩, 6) := ⟨⟨by decide +kernel, by decide +kernel⟩, List.mem_of_getElem? (i := 11) (by decide +kernel), List.mem_of_getElem? (i := 423) (by decide +kernel), List.mem_of_getElem? (i := 424) (by decide +kernel)⟩
theorem lw_p21 : lw_okq (⟨"StepPile", "dropAll", "()V"⟩, 6) := ⟨⟨by decide +kernel, by decide +kernel⟩, List.mem_of_getElem? (i := 11) (by decide +kernel), List.mem_of_getElem? (i := 427) (by decide +kernel), List.mem_of_getElem? (i := 428) (by decide +kernel)⟩
theorem lw_p22 : lw_okq (⟨"StepPile", "symbolsInAll", "()I"⟩, 6) := ⟨⟨by decide +kernel, by decide +kernel⟩, List.mem_of_getElem? (i := 11) (by decide +kernel), List.mem_of_getElem? (i := 436) (by decide +kernel), List.mem_of_getElem? (i := 437) (by decide +kernel)⟩
theorem lw_p23 : lw_okq (⟨"StepPileModel", "last", "()I"⟩, 23) := ⟨⟨by decide +kernel, by decide +kernel⟩, List.mem_of_getElem? (i := 483) (by decide +kernel), List.mem_of_getElem? (i := 575) (by decide +kernel), List.mem_of_getElem? (i := 576) (by decide +kernel)⟩
theorem lw_p24 : lw_okq (⟨"StepPileModel", "isOpenAssertion", "()Z"⟩, 23) := ⟨⟨by decide +kernel, by decide +kernel⟩, List.mem_of_getElem? (i := 483) (by decide +kernel), List.mem_of_getElem? (i := 583) (by decide +kernel), List.mem_of_getElem? (i := 584) (by decide +kernel)⟩
theorem lw_p25 : lw_okq (⟨"StepPileModel", "hasFloating", "(I)Z"⟩, 23) := ⟨⟨by decide +kernel, by decide +kernel⟩, List.mem_of_getElem? (i := 483) (by decide +kernel), List.mem_of_getElem? (i := 587) (by decide +kernel), List.mem_of_getElem? (i := 588) (by decide +kernel)⟩
theorem lw_p26 : lw_okq (⟨"StepPileModel", "hasAll", "(I)Z"⟩, 23) := ⟨⟨by decide +kernel, by decide +kernel⟩, List.mem_of_getElem? (i := 483) (by decide +kernel), List.mem_of_getElem? (i := 591) (by decide +kernel), List.mem_of_getElem? (i := 592) (by decide +kernel)⟩
theorem lw_p27 : lw_okq (⟨"StepPileModel", "isVariable", "(I)Z"⟩, 23) := ⟨⟨by decide +kernel, by decide +kernel⟩, List.mem_of_getElem? (i := 483) (by decide +kernel), List.mem_of_getElem? (i := 599) (by decide +kernel), List.mem_of_getElem? (i := 600) (by decide +kernel)⟩
theorem lw_p28 : lw_okq (⟨"StepPileModel", "areApart", "(II)Z"⟩, 23) := ⟨⟨by decide +kernel, by decide +kernel⟩, List.mem_of_getElem? (i := 483) (by decide +kernel), List.mem_of_getElem? (i := 611) (by decide +kernel), List.mem_of_getElem? (i := 612) (by decide +kernel)⟩
theorem lw_p29 : lw_okq (⟨"StepPileModel", "isClosed", "(I)Z"⟩, 23) := ⟨⟨by decide +kernel, by decide +kernel⟩, List.mem_of_getElem? (i := 483) (by decide +kernel), List.mem_of_getElem? (i := 619) (by decide +kernel), List.mem_of_getElem? (i := 620) (by decide +kernel)⟩
theorem lw_p30 : lw_okq (⟨"StepPileModel", "assertion", "(I)I"⟩, 23) := ⟨⟨by decide +kernel, by decide +kernel⟩, List.mem_of_getElem? (i := 483) (by decide +kernel), List.mem_of_getElem? (i := 623) (by decide +kernel), List.mem_of_getElem? (i := 624) (by decide +kernel)⟩
theorem lw_p31 : lw_okq (⟨"StepPileModel", "fail", "(I)I"⟩, 23) := ⟨⟨by decide +kernel, by decide +kernel⟩, List.mem_of_getElem? (i := 483) (by decide +kernel), List.mem_of_getElem? (i := 627) (by decide +kernel), List.mem_of_getElem? (i := 628) (by decide +kernel)⟩
def lw_privs_2 : List (MethodName × Nat) := [(⟨"StepPile", "allApart", "(II)Z"⟩, 6), (⟨"StepPile", "hasRoom", "(II)Z"⟩, 6), (⟨"StepPile$Rows", "addPart", "([III)V"⟩, 3), (⟨"StepPile", "putCopy", "(LStepPile$Rows;I)I"⟩, 6), (⟨"StepPile", "settle", "(I)I"⟩, 6), (⟨"StepPile", "dropAll", "()V"⟩, 6), (⟨"StepPile", "symbolsInAll", "()I"⟩, 6), (⟨"StepPileModel", "last", "()I"⟩, 23), (⟨"StepPileModel", "isOpenAssertion", "()Z"⟩, 23), (⟨"StepPileModel", "hasFloating", "(I)Z"⟩, 23), (⟨"StepPileModel", "hasAll", "(I)Z"⟩, 23), (⟨"StepPileModel", "isVariable", "(I)Z"⟩, 23), (⟨"StepPileModel", "areApart", "(II)Z"⟩, 23), (⟨"StepPileModel", "isClosed", "(I)Z"⟩, 23), (⟨"StepPileModel", "assertion", "(I)I"⟩, 23), (⟨"StepPileModel", "fail", "(I)I"⟩, 23)]
theorem lw_r2 : ∀ q ∈ lw_privs_2, lw_okq q := List.forall_mem_cons.mpr ⟨lw_p16, List.forall_mem_cons.mpr ⟨lw_p17, List.forall_mem_cons.mpr ⟨lw_p18, List.forall_mem_cons.mpr ⟨lw_p19, List.forall_mem_cons.mpr ⟨lw_p20, List.forall_mem_cons.mpr ⟨lw_p21, List.forall_mem_cons.mpr ⟨lw_p22, List.forall_mem_cons.mpr ⟨lw_p23, List.forall_mem_cons.mpr ⟨lw_p24, List.forall_mem_cons.mpr ⟨lw_p25, List.forall_mem_cons.mpr ⟨lw_p26, List.forall_mem_cons.mpr ⟨lw_p27, List.forall_mem_cons.mpr ⟨lw_p28, List.forall_mem_cons.mpr ⟨lw_p29, List.forall_mem_cons.mpr ⟨lw_p30, List.forall_mem_cons.mpr ⟨lw_p31, fun _ h => absurd h List.not_mem_nil⟩⟩⟩⟩⟩⟩⟩⟩⟩⟩⟩⟩⟩⟩⟩⟩
theorem lw_p32 : lw_okq (⟨"StepPileModel", "empty", "()V"⟩, 23) := ⟨⟨by decide +kernel, by decide +kernel⟩, List.mem_of_getElem? (i := 483) (by decide +kernel), List.mem_of_getElem? (i := 631) (by decide +kernel), List.mem_of_getElem? (i := 632) (by decide +kernel)⟩
theorem lw_p33 : lw_okq (⟨"StepPileModel", "symbolOf", "(II)I"⟩, 23) := ⟨⟨by decide +kernel, by decide +kernel⟩, List.mem_of_getElem? (i := 483) (by decide +kernel), List.mem_of_getElem? (i := 635) (by decide +kernel), List.mem_of_getElem? (i := 636) (by decide +kernel)⟩
theorem lw_p34 : lw_okq (⟨"StepPileModel", "isReplaced", "(II)Z"⟩, 23) := ⟨⟨by decide +kernel, by decide +kernel⟩, List.mem_of_getElem? (i := 483) (by decide +kernel), List.mem_of_getElem? (i := 639) (by decide +kernel), List.mem_of_getElem? (i := 640) (by decide +kernel)⟩
theorem lw_p35 : lw_okq (⟨"StepPileModel", "doStayApart", "(II)Z"⟩, 23) := ⟨⟨by decide +kernel, by decide +kernel⟩, List.mem_of_getElem? (i := 483) (by decide +kernel), List.mem_of_getElem? (i := 643) (by decide +kernel), List.mem_of_getElem? (i := 644) (by decide +kernel)⟩
theorem lw_p36 : lw_okq (⟨"StepPileModel", "make", "(I)Z"⟩, 23) := ⟨⟨by decide +kernel, by decide +kernel⟩, List.mem_of_getElem? (i := 483) (by decide +kernel), List.mem_of_getElem? (i := 647) (by decide +kernel), List.mem_of_getElem? (i := 648) (by decide +kernel)⟩
theorem lw_p37 : lw_okq (⟨"StepPileModel", "pushMade", "()I"⟩, 23) := ⟨⟨by decide +kernel, by decide +kernel⟩, List.mem_of_getElem? (i := 483) (by decide +kernel), List.mem_of_getElem? (i := 651) (by decide +kernel), List.mem_of_getElem? (i := 652) (by decide +kernel)⟩
theorem lw_p38 : lw_okq (⟨"StepPileModel", "allSymbols", "()I"⟩, 23) := ⟨⟨by decide +kernel, by decide +kernel⟩, List.mem_of_getElem? (i := 483) (by decide +kernel), List.mem_of_getElem? (i := 655) (by decide +kernel), List.mem_of_getElem? (i := 656) (by decide +kernel)⟩
theorem lw_p39 : lw_okq (⟨"StepPileModel", "isRow", "(I)Z"⟩, 23) := ⟨⟨by decide +kernel, by decide +kernel⟩, List.mem_of_getElem? (i := 483) (by decide +kernel), List.mem_of_getElem? (i := 680) (by decide +kernel), List.mem_of_getElem? (i := 681) (by decide +kernel)⟩
def lw_privs_3 : List (MethodName × Nat) := [(⟨"StepPileModel", "empty", "()V"⟩, 23), (⟨"StepPileModel", "symbolOf", "(II)I"⟩, 23), (⟨"StepPileModel", "isReplaced", "(II)Z"⟩, 23), (⟨"StepPileModel", "doStayApart", "(II)Z"⟩, 23), (⟨"StepPileModel", "make", "(I)Z"⟩, 23), (⟨"StepPileModel", "pushMade", "()I"⟩, 23), (⟨"StepPileModel", "allSymbols", "()I"⟩, 23), (⟨"StepPileModel", "isRow", "(I)Z"⟩, 23)]
theorem lw_r3 : ∀ q ∈ lw_privs_3, lw_okq q := List.forall_mem_cons.mpr ⟨lw_p32, List.forall_mem_cons.mpr ⟨lw_p33, List.forall_mem_cons.mpr ⟨lw_p34, List.forall_mem_cons.mpr ⟨lw_p35, List.forall_mem_cons.mpr ⟨lw_p36, List.forall_mem_cons.mpr ⟨lw_p37, List.forall_mem_cons.mpr ⟨lw_p38, List.forall_mem_cons.mpr ⟨lw_p39, fun _ h => absurd h List.not_mem_nil⟩⟩⟩⟩⟩⟩⟩⟩
def lw_privs : List (MethodName × Nat) := lw_privs_1 ++ (lw_privs_2 ++ (lw_privs_3))
def lw_tbl : List Cond := k2_sels lw_privs ++ tables_1
theorem lw_privs_ok : ∀ q ∈ lw_privs, lw_okq q := by
  show ∀ q ∈ lw_privs_1 ++ (lw_privs_2 ++ (lw_privs_3)), lw_okq q
  exact List.forall_mem_append.mpr ⟨lw_r1, List.forall_mem_append.mpr ⟨lw_r2, lw_r3⟩⟩
/-! NAMES (by program): classes, methods, what the constant pools link. -/
def nT_P : u_T := fun k => match k with
  | 0 => ("StepPile", "symbols", "LStepPile$Symbols;", true)
  | 1 => ("StepPile", "statements", "LStepPile$Statements;", true)
  | 2 => ("StepPile", "pile", "LStepPile$Rows;", true)
  | 3 => ("StepPile", "saved", "LStepPile$Rows;", true)
  | 4 => ("StepPile", "becoming", "LStepPile$Becoming;", true)
  | _ => ("StepPile", "made", "[I", true)
def nT_R : u_T := fun k => match k with
  | 0 => ("StepPile$Rows", "cells", "[I", false)
  | 1 => ("StepPile$Rows", "starts", "[I", true)
  | _ => ("StepPile$Rows", "rows", "I", false)
def nT_Y : u_T := fun k => match k with
  | 0 => ("StepPile$Symbols", "variables", "[Z", true)
  | 1 => ("StepPile$Symbols", "parted", "[J", true)
  | _ => ("StepPile$Symbols", "known", "I", false)
def nT_T : u_T := fun k => match k with
  | 0 => ("StepPile$Statements", "texts", "LStepPile$Rows;", true)
  | 1 => ("StepPile$Statements", "needs", "LStepPile$Rows;", true)
  | 2 => ("StepPile$Statements", "pairs", "LStepPile$Rows;", true)
  | 3 => ("StepPile$Statements", "symbols", "LStepPile$Symbols;", true)
  | 4 => ("StepPile$Statements", "kinds", "[I", true)
  | 5 => ("StepPile$Statements", "floatsIn", "[I", true)
  | _ => ("StepPile$Statements", "open", "I", false)
def nT_B : u_T := fun k => match k with
  | 0 => ("StepPile$Becoming", "symbols", "LStepPile$Symbols;", true)
  | 1 => ("StepPile$Becoming", "pile", "LStepPile$Rows;", true)
  | 2 => ("StepPile$Becoming", "rowOf", "[I", true)
  | 3 => ("StepPile$Becoming", "inside", "LStepPile$Rows;", true)
  | 4 => ("StepPile$Becoming", "lowest", "I", false)
  | 5 => ("StepPile$Becoming", "seen", "[I", true)
  | _ => ("StepPile$Becoming", "mark", "I", false)
def nT_M : u_T := fun k => match k with
  | 0 => ("StepPileModel", "thrown", "I", false)
  | 1 => ("StepPileModel", "constants", "[Z", true)
  | 2 => ("StepPileModel", "symbols", "I", false)
  | 3 => ("StepPileModel", "kinds", "[I", true)
  | 4 => ("StepPileModel", "texts", "[I", true)
  | 5 => ("StepPileModel", "lengths", "[I", true)
  | 6 => ("StepPileModel", "hypotheses", "[I", true)
  | 7 => ("StepPileModel", "hypothesisCounts", "[I", true)
  | 8 => ("StepPileModel", "ones", "[I", true)
  | 9 => ("StepPileModel", "others", "[I", true)
  | 10 => ("StepPileModel", "pairCounts", "[I", true)
  | 11 => ("StepPileModel", "statements", "I", false)
  | 12 => ("StepPileModel", "open", "Z", false)
  | 13 => ("StepPileModel", "apart", "[J", true)
  | 14 => ("StepPileModel", "pile", "[I", true)
  | 15 => ("StepPileModel", "sizes", "[I", true)
  | 16 => ("StepPileModel", "rows", "I", false)
  | 17 => ("StepPileModel", "saved", "[I", true)
  | 18 => ("StepPileModel", "savedSizes", "[I", true)
  | 19 => ("StepPileModel", "savedCount", "I", false)
  | 20 => ("StepPileModel", "made", "[I", true)
  | 21 => ("StepPileModel", "madeSize", "I", false)
  | _ => ("StepPileModel", "becomes", "[I", true)
abbrev vwCl : List vw_C := [("StepPile", nT_P, 6), ("StepPile$Rows", nT_R, 3), ("StepPile$Symbols", nT_Y, 3), ("StepPile$Statements", nT_T, 7), ("StepPile$Becoming", nT_B, 7), ("StepPileModel", nT_M, 23)]
def mt_cn (o : Nat) : String := (["StepPile", "StepPile$Rows", "StepPile$Symbols", "StepPile$Statements", "StepPile$Becoming", "StepPileModel", "StepPileLaw", "java/util/Arrays"] : List String).getD o "java/util/Arrays"
def mt_law : Nat := 117
def mt_code (y : Nat) : ByteArray := ([prog_1_method_1_code, prog_1_method_2_code, prog_1_method_3_code, prog_1_method_4_code, prog_1_method_5_code, prog_1_method_6_code, prog_1_method_7_code, prog_1_method_8_code, prog_1_method_9_code, prog_1_method_24_code, prog_1_method_25_code, prog_1_method_26_code, prog_1_method_22_code, prog_1_method_23_code, prog_1_method_21_code, prog_1_method_20_code, prog_1_method_10_code, prog_1_method_19_code, prog_1_method_11_code, prog_1_method_12_code, prog_1_method_13_code, prog_1_method_14_code, prog_1_method_15_code, prog_1_method_16_code, prog_1_method_17_code, prog_1_method_18_code, prog_3_method_1_code, prog_3_method_3_code, prog_3_method_2_code, prog_3_method_12_code, prog_3_method_5_code, prog_3_method_4_code, prog_3_method_13_code, prog_3_method_17_code, prog_3_method_8_code, prog_3_method_10_code, prog_3_method_9_code, prog_3_method_18_code, prog_3_method_11_code, prog_3_method_7_code, prog_3_method_6_code, prog_3_method_14_code, prog_3_method_16_code, prog_3_method_15_code, prog_3_method_19_code, prog_5_method_1_code, prog_5_method_3_code, prog_5_method_4_code, prog_5_method_6_code, prog_5_method_5_code, prog_5_method_8_code, prog_5_method_7_code, prog_5_method_9_code, prog_5_method_10_code, prog_5_method_2_code, prog_4_method_1_code, prog_4_method_6_code, prog_4_method_7_code, prog_4_method_8_code, prog_4_method_2_code, prog_4_method_9_code, prog_4_method_4_code, prog_4_method_5_code, prog_4_method_3_code, prog_4_method_10_code, prog_4_method_13_code, prog_4_method_11_code, prog_4_method_14_code, prog_4_method_12_code, prog_4_method_15_code, prog_4_method_16_code, prog_4_method_17_code, prog_4_method_18_code, prog_2_method_1_code, prog_2_method_3_code, prog_2_method_4_code, prog_2_method_2_code, prog_2_method_6_code, prog_2_method_7_code, prog_2_method_5_code, prog_7_method_1_code, prog_7_method_3_code, prog_7_method_5_code, prog_7_method_7_code, prog_7_method_6_code, prog_7_method_11_code, prog_7_method_10_code, prog_7_method_8_code, prog_7_method_9_code, prog_7_method_12_code, prog_7_method_4_code, prog_7_method_13_code, prog_7_method_15_code, prog_7_method_14_code, prog_7_method_26_code, prog_7_method_25_code, prog_7_method_24_code, prog_7_method_18_code, prog_7_method_17_code, prog_7_method_20_code, prog_7_method_21_code, prog_7_method_22_code, prog_7_method_23_code, prog_7_method_19_code, prog_7_method_16_code, prog_7_method_27_code, prog_7_method_28_code, prog_7_method_29_code, prog_7_method_30_code, prog_7_method_32_code, prog_7_method_31_code, prog_7_method_33_code, prog_7_method_34_code, prog_7_method_35_code, prog_7_method_36_code, prog_11_method_103_code, prog_11_method_123_code, code] : List (ByteArray)).getD y (prog_1_method_1_code)
def mt_cls (y : Nat) : Nat := ([0, 0, 0, 0, 0, 0, 0, 0, 0, 0, 0, 0, 0, 0, 0, 0, 0, 0, 0, 0, 0, 0, 0, 0, 0, 0, 1, 1, 1, 1, 1, 1, 1, 1, 1, 1, 1, 1, 1, 1, 1, 1, 1, 1, 1, 2, 2, 2, 2, 2, 2, 2, 2, 2, 2, 3, 3, 3, 3, 3, 3, 3, 3, 3, 3, 3, 3, 3, 3, 3, 3, 3, 3, 4, 4, 4, 4, 4, 4, 4, 5, 5, 5, 5, 5, 5, 5, 5, 5, 5, 5, 5, 5, 5, 5, 5, 5, 5, 5, 5, 5, 5, 5, 5, 5, 5, 5, 5, 5, 5, 5, 5, 5, 5, 5, 7, 7, 6] : List (Nat)).getD y (0)
def mt_nl (y : Nat) : Nat := ([1, 2, 2, 2, 2, 3, 1, 3, 3, 4, 8, 5, 3, 3, 2, 1, 2, 1, 2, 2, 2, 2, 3, 3, 5, 3, 2, 1, 1, 1, 2, 2, 2, 3, 4, 10, 4, 2, 6, 2, 1, 3, 4, 3, 2, 1, 2, 2, 2, 2, 4, 3, 4, 4, 1, 2, 3, 2, 3, 2, 2, 1, 2, 2, 2, 2, 4, 5, 2, 3, 7, 1, 2, 3, 5, 10, 2, 7, 9, 10, 1, 2, 2, 5, 1, 4, 1, 5, 5, 5, 2, 3, 3, 3, 3, 2, 7, 2, 1, 3, 9, 8, 6, 2, 3, 2, 3, 2, 2, 2, 2, 3, 3, 5, 1, 4, 3, 4] : List (Nat)).getD y (1)
def mt_rk (y : Nat) : Nat := ([0, 1, 1, 1, 1, 1, 1, 1, 1, 1, 2, 2, 2, 1, 1, 0, 1, 1, 1, 1, 1, 1, 1, 1, 1, 1, 0, 2, 1, 0, 1, 2, 0, 0, 1, 2, 2, 0, 0, 1, 1, 0, 0, 0, 2, 0, 1, 2, 2, 2, 2, 2, 2, 1, 1, 0, 1, 1, 2, 1, 1, 2, 2, 2, 2, 2, 2, 2, 0, 1, 2, 2, 2, 0, 2, 2, 1, 0, 2, 1, 0, 1, 1, 1, 1, 1, 2, 2, 2, 1, 2, 1, 1, 2, 1, 2, 1, 1, 0, 1, 2, 2, 2, 1, 1, 1, 1, 1, 1, 1, 2, 1, 1, 1, 1, 0, 3, 2] : List (Nat)).getD y (0)
def mt_init (y : Nat) : Bool := ([true, false, false, false, false, false, false, false, false, false, false, false, false, false, false, false, false, false, false, false, false, false, false, false, false, false, true, false, false, false, false, false, false, false, false, false, false, false, false, false, false, false, false, false, false, true, false, false, false, false, false, false, false, false, false, true, false, false, false, false, false, false, false, false, false, false, false, false, false, false, false, false, false, true, false, false, false, false, false, false, true, false, false, false, false, false, false, false, false, false, false, false, false, false, false, false, false, false, false, false, false, false, false, false, false, false, false, false, false, false, false, false, false, false, false, false, false, false] : List (Bool)).getD y (true)
def mt_name (y : Nat) : MethodName := ([⟨"StepPile", "<init>", "()V"⟩, ⟨"StepPile", "symbol", "(I)I"⟩, ⟨"StepPile", "begin", "(I)I"⟩, ⟨"StepPile", "put", "(I)I"⟩, ⟨"StepPile", "need", "(I)I"⟩, ⟨"StepPile", "pair", "(II)I"⟩, ⟨"StepPile", "close", "()I"⟩, ⟨"StepPile", "apart", "(II)I"⟩, ⟨"StepPile", "step", "(I)I"⟩, ⟨"StepPile", "useAssertion", "(I)I"⟩, ⟨"StepPile", "allFit", "(II)Z"⟩, ⟨"StepPile", "allApart", "(II)Z"⟩, ⟨"StepPile", "hasRoom", "(II)Z"⟩, ⟨"StepPile", "putCopy", "(LStepPile$Rows;I)I"⟩, ⟨"StepPile", "settle", "(I)I"⟩, ⟨"StepPile", "dropAll", "()V"⟩, ⟨"StepPile", "save", "()I"⟩, ⟨"StepPile", "symbolsInAll", "()I"⟩, ⟨"StepPile", "again", "(I)I"⟩, ⟨"StepPile", "clear", "()I"⟩, ⟨"StepPile", "count", "(I)I"⟩, ⟨"StepPile", "length", "(I)I"⟩, ⟨"StepPile", "at", "(II)I"⟩, ⟨"StepPile", "told", "(II)I"⟩, ⟨"StepPile", "is", "(II)I"⟩, ⟨"StepPile", "check", "()I"⟩, ⟨"StepPile$Rows", "<init>", "(I)V"⟩, ⟨"StepPile$Rows", "isFull", "()Z"⟩, ⟨"StepPile$Rows", "rows", "()I"⟩, ⟨"StepPile$Rows", "addEmpty", "()V"⟩, ⟨"StepPile$Rows", "size", "(I)I"⟩, ⟨"StepPile$Rows", "has", "(I)Z"⟩, ⟨"StepPile$Rows", "append", "(I)V"⟩, ⟨"StepPile$Rows", "makeRoom", "(I)V"⟩, ⟨"StepPile$Rows", "get", "(II)I"⟩, ⟨"StepPile$Rows", "isSame", "(IILStepPile$Rows;III)Z"⟩, ⟨"StepPile$Rows", "hasPart", "(III)Z"⟩, ⟨"StepPile$Rows", "dropTo", "(I)V"⟩, ⟨"StepPile$Rows", "copyPart", "(III[II)V"⟩, ⟨"StepPile$Rows", "startOf", "(I)I"⟩, ⟨"StepPile$Rows", "total", "()I"⟩, ⟨"StepPile$Rows", "addFrom", "([II)V"⟩, ⟨"StepPile$Rows", "addPart", "([III)V"⟩, ⟨"StepPile$Rows", "addCopy", "(LStepPile$Rows;I)V"⟩, ⟨"StepPile$Rows", "isGapless", "()Z"⟩, ⟨"StepPile$Symbols", "<init>", "()V"⟩, ⟨"StepPile$Symbols", "add", "(I)I"⟩, ⟨"StepPile$Symbols", "has", "(I)Z"⟩, ⟨"StepPile$Symbols", "isConstant", "(I)Z"⟩, ⟨"StepPile$Symbols", "isVariable", "(I)Z"⟩, ⟨"StepPile$Symbols", "part", "(II)Z"⟩, ⟨"StepPile$Symbols", "areTwoVariables", "(II)Z"⟩, ⟨"StepPile$Symbols", "areParted", "(II)Z"⟩, ⟨"StepPile$Symbols", "bitOf", "(II)I"⟩, ⟨"StepPile$Symbols", "known", "()I"⟩, ⟨"StepPile$Statements", "<init>", "(LStepPile$Symbols;)V"⟩, ⟨"StepPile$Statements", "start", "(I)I"⟩, ⟨"StepPile$Statements", "addSymbol", "(I)I"⟩, ⟨"StepPile$Statements", "mayStandNext", "(I)Z"⟩, ⟨"StepPile$Statements", "kindOf", "(I)I"⟩, ⟨"StepPile$Statements", "addNeed", "(I)I"⟩, ⟨"StepPile$Statements", "isAssertionOpen", "()Z"⟩, ⟨"StepPile$Statements", "isClosedHypothesis", "(I)Z"⟩, ⟨"StepPile$Statements", "isClosed", "(I)Z"⟩, ⟨"StepPile$Statements", "mayBeNeeded", "(I)Z"⟩, ⟨"StepPile$Statements", "hasFloating", "(I)Z"⟩, ⟨"StepPile$Statements", "isNeeded", "(I)Z"⟩, ⟨"StepPile$Statements", "allHaveFloating", "(I)Z"⟩, ⟨"StepPile$Statements", "setFloating", "(I)V"⟩, ⟨"StepPile$Statements", "addPair", "(II)I"⟩, ⟨"StepPile$Statements", "isPair", "(II)Z"⟩, ⟨"StepPile$Statements", "finish", "()Z"⟩, ⟨"StepPile$Statements", "isWhole", "()Z"⟩, ⟨"StepPile$Becoming", "<init>", "(LStepPile$Symbols;LStepPile$Rows;)V"⟩, ⟨"StepPile$Becoming", "learn", "(LStepPile$Rows;II)Z"⟩, ⟨"StepPile$Becoming", "makes", "(LStepPile$Rows;II)Z"⟩, ⟨"StepPile$Becoming", "rowFor", "(I)I"⟩, ⟨"StepPile$Becoming", "listVariables", "(I)V"⟩, ⟨"StepPile$Becoming", "areApart", "(II)Z"⟩, ⟨"StepPile$Becoming", "write", "(LStepPile$Rows;I[I)I"⟩, ⟨"StepPileModel", "<init>", "()V"⟩, ⟨"StepPileModel", "symbol", "(I)I"⟩, ⟨"StepPileModel", "begin", "(I)I"⟩, ⟨"StepPileModel", "put", "(I)I"⟩, ⟨"StepPileModel", "last", "()I"⟩, ⟨"StepPileModel", "need", "(I)I"⟩, ⟨"StepPileModel", "isOpenAssertion", "()Z"⟩, ⟨"StepPileModel", "hasFloating", "(I)Z"⟩, ⟨"StepPileModel", "hasAll", "(I)Z"⟩, ⟨"StepPileModel", "pair", "(II)I"⟩, ⟨"StepPileModel", "isVariable", "(I)Z"⟩, ⟨"StepPileModel", "close", "()I"⟩, ⟨"StepPileModel", "apart", "(II)I"⟩, ⟨"StepPileModel", "areApart", "(II)Z"⟩, ⟨"StepPileModel", "step", "(I)I"⟩, ⟨"StepPileModel", "isClosed", "(I)Z"⟩, ⟨"StepPileModel", "assertion", "(I)I"⟩, ⟨"StepPileModel", "fail", "(I)I"⟩, ⟨"StepPileModel", "empty", "()V"⟩, ⟨"StepPileModel", "symbolOf", "(II)I"⟩, ⟨"StepPileModel", "isReplaced", "(II)Z"⟩, ⟨"StepPileModel", "doStayApart", "(II)Z"⟩, ⟨"StepPileModel", "make", "(I)Z"⟩, ⟨"StepPileModel", "pushMade", "()I"⟩, ⟨"StepPileModel", "allSymbols", "()I"⟩, ⟨"StepPileModel", "save", "()I"⟩, ⟨"StepPileModel", "again", "(I)I"⟩, ⟨"StepPileModel", "clear", "()I"⟩, ⟨"StepPileModel", "count", "(I)I"⟩, ⟨"StepPileModel", "length", "(I)I"⟩, ⟨"StepPileModel", "isRow", "(I)Z"⟩, ⟨"StepPileModel", "at", "(II)I"⟩, ⟨"StepPileModel", "told", "(II)I"⟩, ⟨"StepPileModel", "is", "(II)I"⟩, ⟨"StepPileModel", "check", "()I"⟩, ⟨"java/util/Arrays", "fill", "([II)V"⟩, ⟨"java/util/Arrays", "copyOf", "([II)[I"⟩, ⟨"StepPileLaw", "law", "([I)Z"⟩] : List (MethodName)).getD y (⟨"StepPile", "<init>", "()V"⟩)
def mt_ret (y : Nat) : Option FieldType := ([none, some (FieldType.int), some (FieldType.int), some (FieldType.int), some (FieldType.int), some (FieldType.int), some (FieldType.int), some (FieldType.int), some (FieldType.int), some (FieldType.int), some (FieldType.boolean), some (FieldType.boolean), some (FieldType.boolean), some (FieldType.int), some (FieldType.int), none, some (FieldType.int), some (FieldType.int), some (FieldType.int), some (FieldType.int), some (FieldType.int), some (FieldType.int), some (FieldType.int), some (FieldType.int), some (FieldType.int), some (FieldType.int), none, some (FieldType.boolean), some (FieldType.int), none, some (FieldType.int), some (FieldType.boolean), none, none, some (FieldType.int), some (FieldType.boolean), some (FieldType.boolean), none, none, some (FieldType.int), some (FieldType.int), none, none, none, some (FieldType.boolean), none, some (FieldType.int), some (FieldType.boolean), some (FieldType.boolean), some (FieldType.boolean), some (FieldType.boolean), some (FieldType.boolean), some (FieldType.boolean), some (FieldType.int), some (FieldType.int), none, some (FieldType.int), some (FieldType.int), some (FieldType.boolean), some (FieldType.int), some (FieldType.int), some (FieldType.boolean), some (FieldType.boolean), some (FieldType.boolean), some (FieldType.boolean), some (FieldType.boolean), some (FieldType.boolean), some (FieldType.boolean), none, some (FieldType.int), some (FieldType.boolean), some (FieldType.boolean), some (FieldType.boolean), none, some (FieldType.boolean), some (FieldType.boolean), some (FieldType.int), none, some (FieldType.boolean), some (FieldType.int), none, some (FieldType.int), some (FieldType.int), some (FieldType.int), some (FieldType.int), some (FieldType.int), some (FieldType.boolean), some (FieldType.boolean), some (FieldType.boolean), some (FieldType.int), some (FieldType.boolean), some (FieldType.int), some (FieldType.int), some (FieldType.boolean), some (FieldType.int), some (FieldType.boolean), some (FieldType.int), some (FieldType.int), none, some (FieldType.int), some (FieldType.boolean), some (FieldType.boolean), some (FieldType.boolean), some (FieldType.int), some (FieldType.int), some (FieldType.int), some (FieldType.int), some (FieldType.int), some (FieldType.int), some (FieldType.int), some (FieldType.boolean), some (FieldType.int), some (FieldType.int), some (FieldType.int), some (FieldType.int), none, some ((FieldType.array FieldType.int)), some .boolean] : List (Option FieldType)).getD y (none)
-- 0: StepPile.<init>()V
-- 1: StepPile.symbol(I)I
-- 2: StepPile.begin(I)I
-- 3: StepPile.put(I)I
-- 4: StepPile.need(I)I
-- 5: StepPile.pair(II)I
-- 6: StepPile.close()I
-- 7: StepPile.apart(II)I
-- 8: StepPile.step(I)I
-- 9: StepPile.useAssertion(I)I
-- 10: StepPile.allFit(II)Z
-- 11: StepPile.allApart(II)Z
-- 12: StepPile.hasRoom(II)Z
-- 13: StepPile.putCopy(LStepPile$Rows;I)I
-- 14: StepPile.settle(I)I
-- 15: StepPile.dropAll()V
-- 16: StepPile.save()I
-- 17: StepPile.symbolsInAll()I
-- 18: StepPile.again(I)I
-- 19: StepPile.clear()I
-- 20: StepPile.count(I)I
-- 21: StepPile.length(I)I
-- 22: StepPile.at(II)I
-- 23: StepPile.told(II)I
-- 24: StepPile.is(II)I
-- 25: StepPile.check()I
-- 26: StepPile$Rows.<init>(I)V
-- 27: StepPile$Rows.isFull()Z
-- 28: StepPile$Rows.rows()I
-- 29: StepPile$Rows.addEmpty()V
-- 30: StepPile$Rows.size(I)I
-- 31: StepPile$Rows.has(I)Z
-- 32: StepPile$Rows.append(I)V
-- 33: StepPile$Rows.makeRoom(I)V
-- 34: StepPile$Rows.get(II)I
-- 35: StepPile$Rows.isSame(IILStepPile$Rows;III)Z
-- 36: StepPile$Rows.hasPart(III)Z
-- 37: StepPile$Rows.dropTo(I)V
-- 38: StepPile$Rows.copyPart(III[II)V
-- 39: StepPile$Rows.startOf(I)I
-- 40: StepPile$Rows.total()I
-- 41: StepPile$Rows.addFrom([II)V
-- 42: StepPile$Rows.addPart([III)V
-- 43: StepPile$Rows.addCopy(LStepPile$Rows;I)V
-- 44: StepPile$Rows.isGapless()Z
-- 45: StepPile$Symbols.<init>()V
-- 46: StepPile$Symbols.add(I)I
-- 47: StepPile$Symbols.has(I)Z
-- 48: StepPile$Symbols.isConstant(I)Z
-- 49: StepPile$Symbols.isVariable(I)Z
-- 50: StepPile$Symbols.part(II)Z
-- 51: StepPile$Symbols.areTwoVariables(II)Z
-- 52: StepPile$Symbols.areParted(II)Z
-- 53: StepPile$Symbols.bitOf(II)I
-- 54: StepPile$Symbols.known()I
-- 55: StepPile$Statements.<init>(LStepPile$Symbols;)V
-- 56: StepPile$Statements.start(I)I
-- 57: StepPile$Statements.addSymbol(I)I
-- 58: StepPile$Statements.mayStandNext(I)Z
-- 59: StepPile$Statements.kindOf(I)I
-- 60: StepPile$Statements.addNeed(I)I
-- 61: StepPile$Statements.isAssertionOpen()Z
-- 62: StepPile$Statements.isClosedHypothesis(I)Z
-- 63: StepPile$Statements.isClosed(I)Z
-- 64: StepPile$Statements.mayBeNeeded(I)Z
-- 65: StepPile$Statements.hasFloating(I)Z
-- 66: StepPile$Statements.isNeeded(I)Z
-- 67: StepPile$Statements.allHaveFloating(I)Z
-- 68: StepPile$Statements.setFloating(I)V
-- 69: StepPile$Statements.addPair(II)I
-- 70: StepPile$Statements.isPair(II)Z
-- 71: StepPile$Statements.finish()Z
-- 72: StepPile$Statements.isWhole()Z
-- 73: StepPile$Becoming.<init>(LStepPile$Symbols;LStepPile$Rows;)V
-- 74: StepPile$Becoming.learn(LStepPile$Rows;II)Z
-- 75: StepPile$Becoming.makes(LStepPile$Rows;II)Z
-- 76: StepPile$Becoming.rowFor(I)I
-- 77: StepPile$Becoming.listVariables(I)V
-- 78: StepPile$Becoming.areApart(II)Z
-- 79: StepPile$Becoming.write(LStepPile$Rows;I[I)I
-- 80: StepPileModel.<init>()V
-- 81: StepPileModel.symbol(I)I
-- 82: StepPileModel.begin(I)I
-- 83: StepPileModel.put(I)I
-- 84: StepPileModel.last()I
-- 85: StepPileModel.need(I)I
-- 86: StepPileModel.isOpenAssertion()Z
-- 87: StepPileModel.hasFloating(I)Z
-- 88: StepPileModel.hasAll(I)Z
-- 89: StepPileModel.pair(II)I
-- 90: StepPileModel.isVariable(I)Z
-- 91: StepPileModel.close()I
-- 92: StepPileModel.apart(II)I
-- 93: StepPileModel.areApart(II)Z
-- 94: StepPileModel.step(I)I
-- 95: StepPileModel.isClosed(I)Z
-- 96: StepPileModel.assertion(I)I
-- 97: StepPileModel.fail(I)I
-- 98: StepPileModel.empty()V
-- 99: StepPileModel.symbolOf(II)I
-- 100: StepPileModel.isReplaced(II)Z
-- 101: StepPileModel.doStayApart(II)Z
-- 102: StepPileModel.make(I)Z
-- 103: StepPileModel.pushMade()I
-- 104: StepPileModel.allSymbols()I
-- 105: StepPileModel.save()I
-- 106: StepPileModel.again(I)I
-- 107: StepPileModel.clear()I
-- 108: StepPileModel.count(I)I
-- 109: StepPileModel.length(I)I
-- 110: StepPileModel.isRow(I)Z
-- 111: StepPileModel.at(II)I
-- 112: StepPileModel.told(II)I
-- 113: StepPileModel.is(II)I
-- 114: StepPileModel.check()I
-- 115: java/util/Arrays.fill([II)V
-- 116: java/util/Arrays.copyOf([II)[I
def tb_flds : List (Nat × Nat × Nat × Nat × Nat × Bool) := [(2, 11, 2, 0, 1, true), (2, 15, 2, 1, 1, true), (2, 19, 2, 2, 0, false), (1, 11, 1, 0, 1, false), (1, 25, 1, 1, 1, true), (1, 15, 1, 2, 0, false), (3, 14, 3, 0, 1, true), (0, 85, 3, 0, 9, true), (3, 20, 3, 1, 1, true), (0, 125, 3, 1, 9, true), (3, 23, 3, 2, 1, true), (0, 128, 3, 2, 9, true), (3, 37, 3, 3, 1, true), (3, 26, 3, 4, 1, true), (3, 30, 3, 5, 1, true), (3, 33, 3, 6, 0, false), (4, 34, 4, 0, 1, true), (4, 38, 4, 1, 1, true), (4, 9, 4, 2, 1, true), (4, 20, 4, 3, 1, true), (4, 24, 4, 4, 0, false), (4, 28, 4, 5, 1, true), (4, 31, 4, 6, 0, false), (0, 10, 0, 0, 1, true), (0, 21, 0, 1, 1, true), (0, 30, 0, 2, 1, true), (0, 34, 0, 3, 1, true), (0, 42, 0, 4, 1, true), (0, 46, 0, 5, 1, true), (5, 64, 5, 0, 0, false), (5, 7, 5, 1, 1, true), (5, 68, 5, 2, 0, false), (5, 13, 5, 3, 1, true), (5, 18, 5, 4, 1, true), (5, 21, 5, 5, 1, true), (5, 24, 5, 6, 1, true), (5, 27, 5, 7, 1, true), (5, 31, 5, 8, 1, true), (5, 34, 5, 9, 1, true), (5, 37, 5, 10, 1, true), (5, 75, 5, 11, 0, false), (5, 71, 5, 12, 2, false), (5, 40, 5, 13, 1, true), (5, 45, 5, 14, 1, true), (5, 48, 5, 15, 1, true), (5, 100, 5, 16, 0, false), (5, 52, 5, 17, 1, true), (5, 55, 5, 18, 1, true), (5, 103, 5, 19, 0, false), (5, 58, 5, 20, 1, true), (5, 112, 5, 21, 0, false), (5, 61, 5, 22, 1, true)]
def tb_fld (o n : Nat) : Option (Nat × Nat × Nat × Bool) := (tb_flds.find? (fun e => e.1 == o && e.2.1 == n)).map (fun e => e.2.2)
def tb_mths : List (Nat × Nat × Nat × Nat × Nat × Nat) := [(6, 9, 2, 0, 0, 0), (0, 1, 7, 0, 0, 0), (2, 5, 7, 0, 0, 0), (0, 18, 2, 55, 1, 3), (3, 3, 7, 0, 0, 0), (3, 11, 2, 26, 1, 1), (1, 3, 7, 0, 0, 0), (1, 19, 4, 0, 2, 0), (3, 41, 1, 115, 2, 0), (0, 27, 2, 26, 1, 1), (0, 39, 2, 73, 2, 4), (4, 3, 7, 0, 0, 0), (4, 17, 2, 26, 1, 1), (6, 13, 0, 1, 1, 0), (0, 50, 0, 46, 1, 2), (6, 18, 0, 2, 1, 0), (0, 54, 0, 56, 1, 3), (3, 58, 0, 27, 0, 1), (3, 62, 0, 28, 0, 1), (3, 66, 0, 29, 0, 1), (1, 42, 0, 27, 0, 1), (6, 22, 0, 3, 1, 0), (0, 57, 0, 57, 1, 3), (3, 69, 0, 47, 1, 2), (3, 72, 0, 58, 1, 3), (3, 75, 0, 30, 1, 1), (1, 28, 0, 31, 1, 1), (3, 81, 0, 48, 1, 2), (3, 51, 0, 59, 1, 3), (3, 47, 0, 31, 1, 1), (3, 84, 0, 49, 1, 2), (3, 78, 0, 32, 1, 1), (1, 46, 0, 33, 1, 1), (1, 58, 1, 116, 2, 0), (7, 304, 5, 0, 2, 0), (7, 150, 6, 0, 5, 0), (6, 26, 0, 4, 1, 0), (0, 60, 0, 60, 1, 3), (3, 87, 0, 61, 0, 3), (3, 90, 0, 62, 1, 3), (3, 55, 0, 63, 1, 3), (3, 93, 0, 64, 1, 3), (3, 96, 0, 34, 2, 1), (3, 103, 0, 65, 1, 3), (3, 106, 0, 66, 1, 3), (3, 109, 0, 67, 1, 3), (3, 100, 0, 68, 1, 3), (6, 30, 0, 5, 2, 0), (0, 63, 0, 69, 2, 3), (3, 112, 0, 70, 2, 3), (6, 35, 0, 6, 0, 0), (0, 67, 0, 71, 0, 3), (3, 116, 0, 72, 0, 3), (6, 40, 0, 7, 2, 0), (0, 71, 0, 50, 2, 2), (2, 27, 0, 51, 2, 2), (2, 23, 0, 49, 1, 2), (2, 31, 0, 52, 2, 2), (2, 34, 1, 53, 2, 0), (2, 38, 5, 0, 2, 0), (2, 43, 4, 0, 2, 0), (6, 44, 0, 8, 1, 0), (0, 75, 0, 63, 1, 3), (0, 79, 0, 59, 1, 3), (0, 82, 0, 9, 1, 0), (0, 95, 0, 28, 0, 1), (0, 105, 0, 30, 1, 1), (0, 153, 0, 10, 2, 0), (0, 122, 0, 34, 2, 1), (0, 167, 0, 74, 3, 4), (4, 47, 0, 34, 2, 1), (4, 51, 0, 30, 1, 1), (4, 41, 0, 49, 1, 2), (0, 171, 0, 75, 3, 4), (4, 55, 0, 76, 1, 4), (4, 58, 0, 35, 6, 1), (1, 32, 0, 36, 3, 1), (0, 156, 0, 11, 2, 0), (0, 174, 0, 77, 1, 4), (4, 71, 0, 37, 1, 1), (4, 74, 0, 28, 0, 1), (4, 78, 0, 29, 0, 1), (4, 81, 0, 32, 1, 1), (0, 177, 0, 78, 2, 4), (4, 84, 0, 52, 2, 2), (0, 159, 0, 79, 3, 4), (4, 62, 4, 0, 2, 0), (4, 67, 0, 38, 5, 1), (1, 36, 6, 0, 5, 0), (0, 150, 0, 12, 2, 0), (0, 147, 0, 39, 1, 1), (0, 141, 0, 40, 0, 1), (0, 144, 0, 37, 1, 1), (0, 163, 0, 41, 2, 1), (1, 50, 0, 42, 3, 1), (0, 88, 0, 13, 2, 0), (0, 109, 0, 43, 2, 1), (1, 54, 0, 30, 1, 1), (0, 92, 0, 14, 1, 0), (0, 116, 0, 15, 0, 0), (6, 48, 0, 16, 0, 0), (0, 99, 0, 27, 0, 1), (0, 102, 0, 17, 0, 0), (6, 52, 0, 18, 1, 0), (0, 113, 0, 31, 1, 1), (6, 56, 0, 19, 0, 0), (6, 60, 0, 20, 1, 0), (0, 119, 0, 54, 0, 2), (6, 64, 0, 21, 1, 0), (6, 68, 0, 22, 2, 0), (6, 72, 0, 23, 2, 0), (6, 76, 0, 24, 2, 0), (0, 131, 0, 35, 6, 1), (6, 80, 0, 25, 0, 0), (0, 135, 0, 48, 1, 2), (0, 138, 0, 44, 0, 1), (6, 12, 2, 80, 0, 5), (5, 1, 7, 0, 0, 0), (6, 17, 0, 81, 1, 5), (6, 21, 0, 82, 1, 5), (6, 25, 0, 83, 1, 5), (5, 78, 0, 84, 0, 5), (6, 29, 0, 85, 1, 5), (5, 86, 0, 86, 0, 5), (5, 82, 0, 87, 1, 5), (5, 90, 0, 88, 1, 5), (6, 34, 0, 89, 2, 5), (5, 93, 0, 90, 1, 5), (6, 39, 0, 91, 0, 5), (6, 43, 0, 92, 2, 5), (5, 96, 0, 93, 2, 5), (6, 47, 0, 94, 1, 5), (5, 136, 0, 95, 1, 5), (5, 139, 0, 96, 1, 5), (5, 116, 0, 97, 1, 5), (5, 106, 0, 98, 0, 5), (5, 120, 0, 99, 2, 5), (5, 124, 0, 100, 2, 5), (5, 127, 0, 101, 2, 5), (5, 130, 0, 102, 1, 5), (5, 133, 0, 103, 0, 5), (5, 109, 0, 104, 0, 5), (6, 51, 0, 105, 0, 5), (6, 55, 0, 106, 1, 5), (6, 59, 0, 107, 0, 5), (6, 63, 0, 108, 1, 5), (6, 67, 0, 109, 1, 5), (5, 142, 0, 110, 1, 5), (6, 71, 0, 111, 2, 5), (6, 75, 0, 112, 2, 5), (6, 79, 0, 113, 2, 5), (6, 83, 0, 114, 0, 5), (0, 9, 3, 45, 0, 2)]
def tb_mth (o n : Nat) : Option (Nat × Nat × Nat × Nat) := (tb_mths.find? (fun e => e.1 == o && e.2.1 == n)).map (fun e => e.2.2)
def tb_news : List (Nat × Nat × Nat × List Value) := [(6, 7, 0, [.null, .null, .null, .null, .null, .null]), (0, 7, 2, [.null, .null, .int 0]), (0, 16, 3, [.null, .null, .null, .null, .null, .null, .int 0]), (3, 9, 1, [.null, .null, .int 0]), (0, 25, 1, [.null, .null, .int 0]), (0, 37, 4, [.null, .null, .null, .null, .int 0, .null, .int 0]), (4, 15, 1, [.null, .null, .int 0]), (6, 10, 5, [.int 0, .null, .int 0, .null, .null, .null, .null, .null, .null, .null, .null, .int 0, .int 0, .null, .null, .null, .int 0, .null, .null, .int 0, .null, .int 0, .null])]
def tb_new (o n : Nat) : Option (Nat × List Value) := (tb_news.find? (fun e => e.1 == o && e.2.1 == n)).map (fun e => e.2.2)
def tb_ldcs : List (Nat × Nat × Int32) := [(0, 108, 40000), (5, 17, 90000), (5, 30, 60000), (5, 44, 201000), (5, 51, 300000), (5, 115, 40000)]
def tb_ldc (o n : Nat) : Option Int32 := (tb_ldcs.find? (fun e => e.1 == o && e.2.1 == n)).map (fun e => e.2.2)
def en_nl : List (String × Nat × MethodName × String) := [("StepPile", 9, ⟨"StepPile$Symbols", "<init>", "()V"⟩, "StepPile")]
def tp_flds : List Nat := [64, 65, 66, 91, 92, 93, 105, 106, 107, 108, 109, 110, 111, 112, 113, 114, 140, 141, 142, 143, 144, 145, 146, 162, 163, 164, 165, 166, 167, 532, 533, 534, 535, 536, 537, 538, 539, 540, 541, 542, 543, 544, 545, 546, 547, 548, 549, 550, 551, 552, 553, 554]
def tp_mths : List (List Nat) := [[52, 53], [55, 56, 57], [63, 56, 57], [78, 79], [81, 56, 57], [84, 85], [87, 56, 57], [88, 89, 45, 90], [102, 103], [131, 85], [134, 135], [137, 56, 57], [139, 85], [181, 182, 183], [185, 186, 187], [189, 190, 191], [193, 194, 195], [197, 198, 199], [201, 202, 203], [205, 206, 207], [209, 198, 199], [210, 211, 212], [214, 215, 216], [218, 219, 220], [222, 224, 0], [226, 227, 228], [230, 231, 232], [234, 235, 236], [238, 239, 240], [242, 231, 232], [243, 244, 245], [247, 248, 249], [251, 253, 1], [255, 256], [265, 266, 45, 267], [268, 270, 269, 49], [271, 272, 273], [275, 276, 277], [279, 281, 2], [283, 285, 3], [287, 288, 289], [291, 293, 4], [295, 296, 297], [299, 301, 5], [303, 305, 6], [307, 309, 7], [311, 313, 8], [315, 316, 317], [319, 320, 321], [323, 325, 9], [327, 328, 329], [331, 332, 333], [335, 337, 10], [339, 340, 341], [343, 344, 345], [347, 349, 11], [351, 244, 245], [352, 353, 354], [356, 357], [359, 266, 45, 267], [360, 89, 45, 90], [361, 362, 363], [365, 288, 289], [366, 239, 240], [367, 369, 12], [371, 202, 203], [372, 227, 228], [373, 375, 13], [377, 296, 297], [378, 379, 380], [382, 296, 297], [383, 227, 228], [384, 244, 245], [385, 386, 387], [389, 391, 14], [393, 394, 395], [397, 399, 15], [401, 403, 16], [405, 406, 407], [409, 410, 411], [413, 202, 203], [414, 206, 207], [415, 248, 249], [416, 417, 418], [420, 353, 354], [421, 422, 423], [425, 89, 45, 90], [426, 427, 428], [430, 270, 269, 49], [431, 433, 17], [435, 436, 437], [439, 440, 441], [444, 410, 411], [445, 446, 447], [449, 451, 18], [453, 455, 19], [457, 458, 459], [461, 227, 228], [462, 464, 20], [466, 468, 21], [470, 471, 472], [474, 198, 199], [475, 477, 22], [479, 480, 481], [483, 231, 232], [484, 485, 486], [488, 489, 490], [492, 493, 494], [496, 497, 498], [500, 501, 502], [504, 505, 506], [508, 509, 510], [512, 394, 395], [513, 514, 515], [517, 235, 236], [518, 519, 520], [524, 525], [527, 56, 57], [602, 603, 604], [606, 607, 608], [610, 611, 612], [614, 616, 23], [618, 619, 620], [622, 624, 24], [626, 628, 25], [630, 632, 26], [634, 635, 636], [638, 640, 27], [642, 643, 644], [646, 647, 648], [650, 652, 28], [654, 655, 656], [658, 660, 29], [662, 664, 30], [666, 668, 31], [670, 672, 32], [674, 676, 33], [678, 680, 34], [682, 684, 35], [686, 688, 36], [690, 692, 37], [694, 696, 38], [699, 700, 701], [703, 704, 705], [707, 708, 709], [711, 712, 713], [715, 716, 717], [719, 721, 39], [723, 724, 725], [727, 728, 729], [731, 732, 733], [735, 736, 737], [61]]
def tp_y : List (Nat × Nat) := [(54, 41), (184, 41), (192, 41), (213, 41), (274, 41), (318, 41), (330, 41), (342, 41), (364, 41), (370, 41), (376, 41), (404, 41), (434, 41), (456, 41), (465, 41), (469, 41), (473, 41), (478, 41), (482, 41), (487, 41), (491, 41), (499, 41), (503, 41), (507, 41), (511, 41), (516, 41), (86, 44), (200, 44), (204, 44), (208, 44), (229, 44), (233, 44), (250, 44), (254, 44), (298, 44), (396, 44), (400, 44), (412, 44), (429, 44), (438, 44), (442, 44), (448, 44), (452, 44), (460, 44), (521, 44), (62, 42), (188, 42), (221, 42), (237, 42), (246, 42), (346, 42), (350, 42), (355, 42), (358, 42), (495, 42), (80, 43), (196, 43), (217, 43), (225, 43), (241, 43), (278, 43), (282, 43), (286, 43), (290, 43), (294, 43), (302, 43), (306, 43), (310, 43), (314, 43), (322, 43), (326, 43), (334, 43), (338, 43), (136, 47), (381, 47), (388, 47), (392, 47), (408, 47), (419, 47), (424, 47), (526, 48), (605, 48), (609, 48), (613, 48), (617, 48), (621, 48), (625, 48), (629, 48), (633, 48), (637, 48), (641, 48), (645, 48), (649, 48), (653, 48), (657, 48), (661, 48), (665, 48), (669, 48), (673, 48), (677, 48), (681, 48), (685, 48), (689, 48), (693, 48), (697, 48), (702, 48), (706, 48), (710, 48), (714, 48), (718, 48), (722, 48), (726, 48), (730, 48), (734, 48), (738, 48), (104, 46), (257, 46)]
def tp_news : List (List Nat) := [[50, 51, 41], [58, 59, 42], [76, 77, 43], [82, 83, 44], [130, 83, 44], [132, 133, 47], [138, 83, 44], [522, 523, 48]]
def tp_ldcs : List Nat := [443, 528, 529, 530, 531, 698]
def tp_arr : List Nat := [101, 75, 74]
def tp_cls : List (List Nat) := [[168, 170, 172, 174, 176, 178], [94, 96, 98], [67, 69, 71], [115, 117, 119, 121, 123, 125, 127], [147, 149, 151, 153, 155, 157, 159], [555, 557, 559, 561, 563, 565, 567, 569, 571, 573, 575, 577, 579, 581, 583, 585, 587, 589, 591, 593, 595, 597, 599]]
def en_T0 : List Cond := lw_tbl.filter goodWord
end
section
/-! THE ENGINE, pure side: an abstract machine over renamed addresses. Cells are a function of a number; number i is the address b0 + i. -/
abbrev en_C : Type := (Nat × vp_A) ⊕ (Nat × List Value)
abbrev en_H : Type := Nat → en_C
abbrev en_K : Type := Option Value → en_H → Nat → Nat → Prop
abbrev en_R : Type := Nat → List Value → en_H → Nat → Nat → en_K
abbrev en_L : Type := List (Option Value)
abbrev en_F : Type := Nat × en_L × List Value × en_H × Nat × Nat
/-- what an instruction does: it goes on; it returns; it calls (method, arguments, then: pc, locals, stack under the answer) -/
abbrev en_N : Type := en_F ⊕ ((Option Value × en_H × Nat × Nat) ⊕ (Nat × List Value × Nat × en_L × List Value))
def en_up (c : en_H) (a : Nat) (e : en_C) : en_H := fun j => if j = a then e else c j
theorem en_up_s (c : en_H) (a : Nat) (e : en_C) : en_up c a e a = e := if_pos rfl
theorem en_up_n {c : en_H} {a b : Nat} {e : en_C} (h : b ≠ a) : en_up c a e b = c b := if_neg h
noncomputable def en_if {α : Type} (p : Prop) (a b : α) : α := @ite α p (Classical.propDecidable p) a b
theorem en_if_t {α : Type} {p : Prop} {a b : α} (h : p) : en_if p a b = a := by unfold en_if; exact if_pos h
theorem en_if_f {α : Type} {p : Prop} {a b : α} (h : ¬ p) : en_if p a b = b := by unfold en_if; exact if_neg h
abbrev en_O : Type := Option en_N
def en_p1 (st : List Value) (k : Int32 → List Value → en_O) : en_O := match st with
  | .int a :: r => k a r
  | _ => none
def en_p2 (st : List Value) (k : Int32 → Int32 → List Value → en_O) : en_O := match st with
  | .int b :: .int a :: r => k a b r
  | _ => none
def en_l2 (st : List Value) (k : Int64 → Int64 → List Value → en_O) : en_O := match st with
  | .long b :: .long a :: r => k a b r
  | _ => none
def en_li (st : List Value) (k : Int64 → Int32 → List Value → en_O) : en_O := match st with
  | .int b :: .long a :: r => k a b r
  | _ => none
def en_pr (st : List Value) (k : Nat → List Value → en_O) : en_O := match st with
  | .ref a :: r => k a r
  | _ => none
def en_ir (st : List Value) (k : Nat → Int32 → List Value → en_O) : en_O := match st with
  | .int i :: .ref a :: r => k a i r
  | _ => none
def en_iir (st : List Value) (k : Nat → Int32 → Int32 → List Value → en_O) : en_O := match st with
  | .int v :: .int i :: .ref a :: r => k a i v r
  | _ => none
def en_lir (st : List Value) (k : Nat → Int32 → Int64 → List Value → en_O) : en_O := match st with
  | .long v :: .int i :: .ref a :: r => k a i v r
  | _ => none
def en_cp (st : List Value) (k : Nat → Int32 → Nat → Int32 → Int32 → List Value → en_O) : en_O := match st with
  | .int n :: .int dp :: .ref a1 :: .int sp :: .ref a0 :: r => k a0 sp a1 dp n r
  | _ => none
def en_vr (st : List Value) (k : Nat → Value → List Value → en_O) : en_O := match st with
  | v :: .ref a :: r => k a v r
  | _ => none
def en_ldI (lv : en_L) (i : Nat) (k : Int32 → en_O) : en_O := match lv[i]? with
  | some (some (.int a)) => k a
  | _ => none
def en_ldA (lv : en_L) (i : Nat) (k : Nat → en_O) : en_O := match lv[i]? with
  | some (some (.ref a)) => k a
  | _ => none
def en_arI (e : en_C) (k : Nat → Nat → (Nat → Int32) → en_O) : en_O := match e with
  | .inl (t, n, .inl f) => k t n f
  | _ => none
def en_arL (e : en_C) (k : Nat → Nat → (Nat → Int64) → en_O) : en_O := match e with
  | .inl (t, n, .inr (.inl f)) => k t n f
  | _ => none
def en_arN (e : en_C) (k : Nat → Nat → en_O) : en_O := match e with
  | .inl (t, n, _) => k t n
  | _ => none
def en_ob (e : en_C) (k : Nat → List Value → en_O) : en_O := match e with
  | .inr (ci, fs) => k ci fs
  | _ => none
def en_op {α : Type} (o : Option α) (k : α → en_O) : en_O := match o with
  | some a => k a
  | none => none
def en_i1 (cd : Jvm.ClassFile.Cond) (a : Int32) : Prop := match cd with
  | .eq => a = 0
  | .ne => ¬ a = 0
  | .lt => a < 0
  | .ge => 0 ≤ a
  | .gt => 0 < a
  | .le => a ≤ 0
def en_i2 (cd : Jvm.ClassFile.Cond) (a b : Int32) : Prop := match cd with
  | .eq => a = b
  | .ne => ¬ a = b
  | .lt => a < b
  | .ge => b ≤ a
  | .gt => b < a
  | .le => a ≤ b
/-- what a value must be for a field of kind 0 (int), 1 (a reference) or 2 (boolean) -/
def en_fk (kd : Nat) (v : Value) : Prop := match v with
  | .int a => kd = 0 ∨ (kd = 2 ∧ (a = 0 ∨ a = 1))
  | .ref _ => kd = 1
  | .null => kd = 1
  | _ => False
def en_fr (pc : Nat) (lv : en_L) (st : List Value) (c : en_H) (x u : Nat) : en_O := some (.inl (pc, lv, st, c, x, u))
noncomputable def en_tg (pc : Nat) (off : Int) (lv : en_L) (st : List Value) (c : en_H) (x u : Nat) : en_O := en_if (0 ≤ (pc : Int) + off) (en_fr ((pc : Int) + off).toNat lv st c x u) none
noncomputable def en_sto (pc : Nat) (lv : en_L) (i : Nat) (v : Value) (st : List Value) (c : en_H) (x u : Nat) : en_O := en_if (i < lv.length) (en_fr pc (lv.set i (some v)) st c x u) none
/-- the script's number: no cell of the world -/
def en_S : Nat := 1000000000
def en_rd (y a x : Nat) : Prop := a < x ∨ (a = en_S ∧ y = mt_law)
def en_rz (rk : Nat) (a : Int32) : Prop := rk = 1 ∨ (rk = 2 ∧ (a = 0 ∨ a = 1))
/-- zeros of a new array -/
def en_z (t N : Nat) : en_C := .inl (t, N, if t = 1 then .inr (.inl (fun _ => 0)) else .inl (fun _ => 0))
def en_at (ty : ArrayType) : Option Nat := match ty with
  | .int => some 0
  | .long => some 1
  | .boolean => some 2
  | _ => none
noncomputable def en_new (pc t : Nat) (lv : en_L) (n : Int32) (r : List Value) (c : en_H) (x u : Nat) : en_O :=
  en_if (¬ n < 0 ∧ n.toNatClampNeg ≤ 1000000) (en_fr (pc + 2) lv (.ref x :: r) (en_up c x (en_z t n.toNatClampNeg)) (x + 1) (u + n.toNatClampNeg)) none
noncomputable def en_inv (pc : Nat) (lv : en_L) (st : List Value) (c : en_H) (x : Nat) (q : Nat × Nat × Nat × Nat) : en_O :=
  en_pr (st.drop q.2.2.1) (fun a r => en_if (a < x ∧ r.length ≤ 4 ∧ (st.take q.2.2.1).length = q.2.2.1)
    (en_ob (c a) (fun ci _ => en_if (ci = q.2.2.2) (some (.inr (.inr (q.2.1, .ref a :: (st.take q.2.2.1).reverse, pc + 3, lv, r)))) none)) none)
noncomputable def en_ins (pc : Nat) (lv : en_L) (st : List Value) (c : en_H) (x u : Nat) (q : Nat × Nat × Nat × Nat) : en_O := match q.1 with
  | 1 => en_if ((st.drop q.2.2.1).length ≤ 4 ∧ (st.take q.2.2.1).length = q.2.2.1) (some (.inr (.inr (q.2.1, (st.take q.2.2.1).reverse, pc + 3, lv, st.drop q.2.2.1)))) none
  | 4 => en_p2 st (fun a b r => en_if (r.length ≤ 4) (en_fr (pc + 3) lv (.int (if a < b then b else a) :: r) c x u) none)
  | 5 => en_p2 st (fun a b r => en_if (r.length ≤ 4) (en_fr (pc + 3) lv (.int (if b < a then b else a) :: r) c x u) none)
  | 6 => en_cp st (fun a0 sp a1 dp n r => en_arI (c a0) (fun t0 n0 f => en_arI (c a1) (fun t1 n1 g =>
      en_if (a0 < x ∧ a1 < x ∧ t0 = 0 ∧ t1 = 0 ∧ r.length ≤ 4 ∧ ¬ sp < 0 ∧ ¬ dp < 0 ∧ ¬ n < 0 ∧ sp.toNatClampNeg + n.toNatClampNeg ≤ n0 ∧ dp.toNatClampNeg + n.toNatClampNeg ≤ n1)
        (en_fr (pc + 3) lv r (en_up c a1 (.inl (0, n1, .inl (va_cpy f g sp.toNatClampNeg dp.toNatClampNeg n.toNatClampNeg)))) x u) none)))
  | _ => none
noncomputable def en_inp (pc : Nat) (lv : en_L) (st : List Value) (c : en_H) (x u : Nat) (q : Nat × Nat × Nat × Nat) : en_O := match q.1 with
  | 2 => en_pr (st.drop q.2.2.1) (fun a r => en_if (r.length ≤ 4 ∧ (st.take q.2.2.1).length = q.2.2.1) (some (.inr (.inr (q.2.1, .ref a :: (st.take q.2.2.1).reverse, pc + 3, lv, r)))) none)
  | 3 => en_pr (st.drop q.2.2.1) (fun a r => en_if (r.length ≤ 4 ∧ (st.take q.2.2.1).length = q.2.2.1) (some (.inr (.inr (q.2.1, .ref a :: (st.take q.2.2.1).reverse, pc + 3, lv, r)))) none)
  | 7 => en_pr st (fun _ r => en_if (r.length ≤ 4) (en_fr (pc + 3) lv r c x u) none)
  | _ => none
noncomputable def en_ret (y : Nat) (st : List Value) (c : en_H) (x u : Nat) : en_O := match st with
  | [.int a] => en_if (en_rz (mt_rk y) a) (some (.inr (.inl (some (.int a), c, x, u)))) none
  | _ => none
noncomputable def en_reta (y : Nat) (st : List Value) (c : en_H) (x u : Nat) : en_O := match st with
  | [.ref a] => en_if (mt_rk y = 3) (some (.inr (.inl (some (.ref a), c, x, u)))) none
  | _ => none
noncomputable def en_retv (y : Nat) (st : List Value) (c : en_H) (x u : Nat) : en_O := match st with
  | [] => en_if (mt_rk y = 0) (some (.inr (.inl (none, c, x, u)))) none
  | _ => none
/-- one instruction -/
noncomputable def en_step (y : Nat) (i : Jvm.ClassFile.Instr) (pc : Nat) (lv : en_L) (st : List Value) (c : en_H) (x u : Nat) : en_O := match i with
  | .iconst n => en_fr (pc + 1) lv (.int (Int32.ofInt n) :: st) c x u
  | .bipush n => en_fr (pc + 2) lv (.int (Int8.ofInt n).toInt32 :: st) c x u
  | .sipush n => en_fr (pc + 3) lv (.int (Int16.ofInt n).toInt32 :: st) c x u
  | .ldc n => en_op (tb_ldc (mt_cls y) n) (fun v => en_fr (pc + 2) lv (.int v :: st) c x u)
  | .lconst n => en_fr (pc + 1) lv (.long (Int64.ofNat (n : Nat)) :: st) c x u
  | .iload n => en_ldI lv n (fun a => en_fr (pc + 2) lv (.int a :: st) c x u)
  | .iload_n n => en_ldI lv n (fun a => en_fr (pc + 1) lv (.int a :: st) c x u)
  | .aload n => en_ldA lv n (fun a => en_fr (pc + 2) lv (.ref a :: st) c x u)
  | .aload_n n => en_ldA lv n (fun a => en_fr (pc + 1) lv (.ref a :: st) c x u)
  | .istore n => en_p1 st (fun a r => en_sto (pc + 2) lv n (.int a) r c x u)
  | .istore_n n => en_p1 st (fun a r => en_sto (pc + 1) lv n (.int a) r c x u)
  | .astore n => en_pr st (fun a r => en_sto (pc + 2) lv n (.ref a) r c x u)
  | .astore_n n => en_pr st (fun a r => en_sto (pc + 1) lv n (.ref a) r c x u)
  | .iinc n k => en_ldI lv n (fun a => en_sto (pc + 3) lv n (.int (a + Int32.ofInt k)) st c x u)
  | .iadd => en_p2 st (fun a b r => en_fr (pc + 1) lv (.int (a + b) :: r) c x u)
  | .isub => en_p2 st (fun a b r => en_fr (pc + 1) lv (.int (a - b) :: r) c x u)
  | .imul => en_p2 st (fun a b r => en_fr (pc + 1) lv (.int (a * b) :: r) c x u)
  | .iand => en_p2 st (fun a b r => en_fr (pc + 1) lv (.int (a &&& b) :: r) c x u)
  | .idiv => en_p2 st (fun a b r => en_if (¬ b = 0) (en_fr (pc + 1) lv (.int (a / b) :: r) c x u) none)
  | .irem => en_p2 st (fun a b r => en_if (¬ b = 0) (en_fr (pc + 1) lv (.int (a - a / b * b) :: r) c x u) none)
  | .land => en_l2 st (fun a b r => en_fr (pc + 1) lv (.long (a &&& b) :: r) c x u)
  | .lor => en_l2 st (fun a b r => en_fr (pc + 1) lv (.long (a ||| b) :: r) c x u)
  | .lcmp => en_l2 st (fun a b r => en_fr (pc + 1) lv (.int (lg_cmp a b) :: r) c x u)
  | .lshl => en_li st (fun a b r => en_fr (pc + 1) lv (.long (a <<< (b.toInt64 &&& 63)) :: r) c x u)
  | .lshr => en_li st (fun a b r => en_fr (pc + 1) lv (.long (a >>> (b.toInt64 &&& 63)) :: r) c x u)
  | .lushr => en_li st (fun a b r => en_fr (pc + 1) lv (.long (a.toUInt64 >>> (b.toInt64.toUInt64 &&& Int64.toUInt64 63)).toInt64 :: r) c x u)
  | .dup => (match st with
    | v :: r => en_if (v.category = 1) (en_fr (pc + 1) lv (v :: v :: r) c x u) none
    | _ => none)
  | .dup2 => (match st with
    | v :: w :: r => en_if (v.category = 1 ∧ w.category = 1) (en_fr (pc + 1) lv (v :: w :: v :: w :: r) c x u) none
    | _ => none)
  | .pop => (match st with
    | v :: r => en_if (v.category = 1) (en_fr (pc + 1) lv r c x u) none
    | _ => none)
  | .ifCond cd off => en_p1 st (fun a r => en_if (0 ≤ (pc : Int) + off) (en_if (en_i1 cd a) (en_fr ((pc : Int) + off).toNat lv r c x u) (en_fr (pc + 3) lv r c x u)) none)
  | .if_icmp cd off => en_p2 st (fun a b r => en_if (0 ≤ (pc : Int) + off) (en_if (en_i2 cd a b) (en_fr ((pc : Int) + off).toNat lv r c x u) (en_fr (pc + 3) lv r c x u)) none)
  | .goto off => en_tg pc off lv st c x u
  | .tableswitch d lo hi offs => en_p1 st (fun a r => en_if (a.toInt < lo ∨ hi < a.toInt) (en_tg pc d lv r c x u) (en_op (offs[(a.toInt - lo).toNat]?) (fun off => en_tg pc off lv r c x u)))
  | .lookupswitch d ps => en_p1 st (fun a r => en_if ((ps.toList.zip (ps.toList.drop 1)).all (fun (a, next) => a.1 < next.1) = true) (en_tg pc (Op.lookupswitch.offset ps.toList d a.toInt) lv r c x u) none)
  | .iaload => en_ir st (fun a i r => en_arI (c a) (fun t n f => en_if (t = 0 ∧ en_rd y a x ∧ vp_in i n) (en_fr (pc + 1) lv (.int (f i.toNatClampNeg) :: r) c x u) none))
  | .baload => en_ir st (fun a i r => en_arI (c a) (fun t n f => en_if (t = 2 ∧ a < x ∧ vp_in i n) (en_fr (pc + 1) lv (.int (f i.toNatClampNeg) :: r) c x u) none))
  | .laload => en_ir st (fun a i r => en_arL (c a) (fun t n f => en_if (t = 1 ∧ a < x ∧ vp_in i n) (en_fr (pc + 1) lv (.long (f i.toNatClampNeg) :: r) c x u) none))
  | .iastore => en_iir st (fun a i v r => en_arI (c a) (fun t n f => en_if (t = 0 ∧ a < x ∧ vp_in i n) (en_fr (pc + 1) lv r (en_up c a (.inl (0, n, .inl (upd f i.toNatClampNeg v)))) x u) none))
  | .bastore => en_iir st (fun a i v r => en_arI (c a) (fun t n f => en_if (t = 2 ∧ a < x ∧ vp_in i n) (en_fr (pc + 1) lv r (en_up c a (.inl (2, n, .inl (upd f i.toNatClampNeg (vp_nar .boolean v))))) x u) none))
  | .lastore => en_lir st (fun a i v r => en_arL (c a) (fun t n f => en_if (t = 1 ∧ a < x ∧ vp_in i n) (en_fr (pc + 1) lv r (en_up c a (.inl (1, n, .inr (.inl (vp_updL f i.toNatClampNeg v))))) x u) none))
  | .arraylength => en_pr st (fun a r => en_arN (c a) (fun t n => en_if (t < 3 ∧ en_rd y a x ∧ (a = en_S → t = 0)) (en_fr (pc + 1) lv (.int (Int32.ofNat n) :: r) c x u) none))
  | .getfield n => en_op (tb_fld (mt_cls y) n) (fun q => en_pr st (fun a r => en_ob (c a) (fun ci fs => en_op (fs[q.2.1]?) (fun v => en_if (a < x ∧ ci = q.1) (en_fr (pc + 3) lv (v :: r) c x u) none))))
  | .putfield n => en_op (tb_fld (mt_cls y) n) (fun q => en_vr st (fun a v r => en_ob (c a) (fun ci fs =>
      en_if (a < x ∧ ci = q.1 ∧ q.2.1 < fs.length ∧ en_fk q.2.2.1 v ∧ (q.2.2.2 = true → mt_init y = true)) (en_fr (pc + 3) lv r (en_up c a (.inr (ci, fs.set q.2.1 v))) x u) none)))
  | .new n => en_op (tb_new (mt_cls y) n) (fun q => en_fr (pc + 3) lv (.ref x :: st) (en_up c x (.inr (q.1, q.2))) (x + 1) (u + q.2.length))
  | .newarray ty => en_op (en_at ty) (fun t => en_p1 st (fun n r => en_new pc t lv n r c x u))
  | .invokevirtual n => en_op (tb_mth (mt_cls y) n) (fun q => en_if (q.1 = 0) (en_inv pc lv st c x q) none)
  | .invokestatic n => en_op (tb_mth (mt_cls y) n) (fun q => en_ins pc lv st c x u q)
  | .invokespecial n => en_op (tb_mth (mt_cls y) n) (fun q => en_inp pc lv st c x u q)
  | .ireturn => en_ret y st c x u
  | .areturn => en_reta y st c x u
  | .return_ => en_retv y st c x u
  | _ => none
def en_len (i : Jvm.ClassFile.Instr) : Nat := match i with
  | .bipush _ => 2
  | .ldc _ => 2
  | .iload _ => 2
  | .istore _ => 2
  | .aload _ => 2
  | .astore _ => 2
  | .newarray _ => 2
  | .sipush _ => 3
  | .iinc _ _ => 3
  | .ifCond _ _ => 3
  | .if_icmp _ _ => 3
  | .goto _ => 3
  | .getfield _ => 3
  | .putfield _ => 3
  | .new _ => 3
  | .invokevirtual _ => 3
  | .invokestatic _ => 3
  | .invokespecial _ => 3
  | .tableswitch _ _ _ _ => 0
  | .lookupswitch _ _ => 0
  | _ => 1
/-- what a stretch leaves: counters grow, numbers not yet given keep their cells -/
def en_ok (c : en_H) (x u : Nat) (c' : en_H) (x' u' : Nat) : Prop := x ≤ x' ∧ u ≤ u' ∧ ∀ a, x' ≤ a → c' a = c a
theorem en_ok_rf {c : en_H} {x u : Nat} : en_ok c x u c x u := ⟨Nat.le_refl _, Nat.le_refl _, fun _ _ => rfl⟩
theorem en_ok_tr {c c' c2 : en_H} {x u x' u' x2 u2 : Nat} (h : en_ok c x u c' x' u') (k : en_ok c' x' u' c2 x2 u2) : en_ok c x u c2 x2 u2 := ⟨Nat.le_trans h.1 k.1, Nat.le_trans h.2.1 k.2.1, fun a ha => (k.2.2 a ha).trans (h.2.2 a (Nat.le_trans k.1 ha))⟩
theorem en_ok_up {c : en_H} {x u a : Nat} {e : en_C} (h : a < x) : en_ok c x u (en_up c a e) x u := ⟨Nat.le_refl _, Nat.le_refl _, fun b hb => en_up_n (by omega)⟩
theorem en_ok_new {c : en_H} {x u k : Nat} {e : en_C} : en_ok c x u (en_up c x e) (x + 1) (u + k) := ⟨Nat.le_succ _, Nat.le_add_right _ _, fun b hb => en_up_n (by omega)⟩
def en_nx (rel : en_R) (go : en_F → Prop) (K : en_K) (c : en_H) (x u : Nat) (o : en_O) : Prop := match o with
  | some (.inl f) => en_ok c x u f.2.2.2.1 f.2.2.2.2.1 f.2.2.2.2.2 ∧ go f
  | some (.inr (.inl r)) => en_ok c x u r.2.1 r.2.2.1 r.2.2.2 ∧ K r.1 r.2.1 r.2.2.1 r.2.2.2
  | some (.inr (.inr q)) => ∃ v c' x' u', rel q.1 q.2.1 c x u v c' x' u' ∧ en_ok c x u c' x' u' ∧ go (q.2.2.1, q.2.2.2.1, v.toList ++ q.2.2.2.2, c', x', u')
  | none => False
def en_wp (rel : en_R) (y : Nat) (K : en_K) : Nat → en_F → Prop
  | 0, _ => False
  | n + 1, f => ∃ i len, decode (mt_code y) f.1 = .ok (i, len) ∧ (len = en_len i ∨ en_len i = 0) ∧ en_nx rel (en_wp rel y K n) K f.2.2.2.1 f.2.2.2.2.1 f.2.2.2.2.2 (en_step y i f.1 f.2.1 f.2.2.1 f.2.2.2.1 f.2.2.2.2.1 f.2.2.2.2.2)
/-- from here the method returns, with K -/
def en_W (rel : en_R) (y : Nat) (pc : Nat) (lv : en_L) (st : List Value) (c : en_H) (x u : Nat) (K : en_K) : Prop := ∃ n, en_wp rel y K n (pc, lv, st, c, x, u)
def en_q (v : Option Value) (c : en_H) (x u : Nat) : en_K := fun v' c' x' u' => v' = v ∧ c' = c ∧ x' = x ∧ u' = u
def en_lv0 (y : Nat) (As : List Value) : en_L := As.map some ++ List.replicate (mt_nl y - As.length) none
/-- a call of method y at depth d -/
def en_call : Nat → en_R
  | 0 => fun _ _ _ _ _ _ _ _ _ => False
  | d + 1 => fun y As c x u v c' x' u' => y ≠ mt_law ∧ As.length ≤ mt_nl y ∧ (∀ a ∈ As, a.category = 1) ∧ en_W (en_call d) y 0 (en_lv0 y As) [] c x u (en_q v c' x' u')
theorem en_nx_mono {rel rel' : en_R} {go go' : en_F → Prop} {K K' : en_K} {c : en_H} {x u : Nat} {o : en_O} (hr : ∀ y As c x u v c' x' u', rel y As c x u v c' x' u' → rel' y As c x u v c' x' u') (hg : ∀ f, go f → go' f) (hK : ∀ v c' x' u', K v c' x' u' → K' v c' x' u') (h : en_nx rel go K c x u o) : en_nx rel' go' K' c x u o := by
  match o, h with
  | some (.inl f), h => exact ⟨h.1, hg f h.2⟩
  | some (.inr (.inl r)), h => exact ⟨h.1, hK _ _ _ _ h.2⟩
  | some (.inr (.inr q)), h =>
    obtain ⟨v, c', x', u', h1, h2, h4⟩ := h
    exact ⟨v, c', x', u', hr _ _ _ _ _ _ _ _ _ h1, h2, hg _ h4⟩
theorem en_wp_mono {rel rel' : en_R} {y : Nat} {K K' : en_K} (hr : ∀ y As c x u v c' x' u', rel y As c x u v c' x' u' → rel' y As c x u v c' x' u') (hK : ∀ v c' x' u', K v c' x' u' → K' v c' x' u') : ∀ (n : Nat) (f : en_F), en_wp rel y K n f → en_wp rel' y K' n f := by
  intro n
  induction n with
  | zero => intro f h; exact h
  | succ n ih =>
    intro f h
    obtain ⟨i, len, h1, h2, h3⟩ := h
    exact ⟨i, len, h1, h2, en_nx_mono hr ih hK h3⟩
theorem en_W_mono {rel rel' : en_R} {y pc : Nat} {lv : en_L} {st : List Value} {c : en_H} {x u : Nat} {K K' : en_K} (hr : ∀ y As c x u v c' x' u', rel y As c x u v c' x' u' → rel' y As c x u v c' x' u') (hK : ∀ v c' x' u', K v c' x' u' → K' v c' x' u') (h : en_W rel y pc lv st c x u K) : en_W rel' y pc lv st c x u K' := by
  obtain ⟨n, h⟩ := h
  exact ⟨n, en_wp_mono hr hK n _ h⟩
theorem en_call_succ : ∀ (d : Nat) (y : Nat) (As : List Value) (c : en_H) (x u : Nat) (v : Option Value) (c' : en_H) (x' u' : Nat), en_call d y As c x u v c' x' u' → en_call (d + 1) y As c x u v c' x' u' := by
  intro d
  induction d with
  | zero => intro y As c x u v c' x' u' h; exact h.elim
  | succ d ih =>
    intro y As c x u v c' x' u' h
    exact ⟨h.1, h.2.1, h.2.2.1, en_W_mono ih (fun _ _ _ _ h => h) h.2.2.2⟩
theorem en_call_le {d d' : Nat} (hd : d ≤ d') {y : Nat} {As : List Value} {c : en_H} {x u : Nat} {v : Option Value} {c' : en_H} {x' u' : Nat} (h : en_call d y As c x u v c' x' u') : en_call d' y As c x u v c' x' u' := by
  induction hd with
  | refl => exact h
  | step _ ih => exact en_call_succ _ _ _ _ _ _ _ _ _ _ ih
/-- one path: what holds at the end is what the machine comes to -/
theorem en_wp_path {rel : en_R} {y : Nat} {K : en_K} : ∀ (n : Nat) (f : en_F), en_wp rel y K n f → ∃ v c' x' u', K v c' x' u' ∧ en_ok f.2.2.2.1 f.2.2.2.2.1 f.2.2.2.2.2 c' x' u' ∧ en_wp rel y (en_q v c' x' u') n f := by
  intro n
  induction n with
  | zero => intro f h; exact h.elim
  | succ n ih =>
    intro f h
    obtain ⟨i, len, h1, h2, h3⟩ := h
    generalize ho : en_step y i f.1 f.2.1 f.2.2.1 f.2.2.2.1 f.2.2.2.2.1 f.2.2.2.2.2 = o at h3
    match o, h3 with
    | some (.inl g), h3 =>
      obtain ⟨v, c', x', u', k1, k2, k4⟩ := ih g h3.2
      exact ⟨v, c', x', u', k1, en_ok_tr h3.1 k2, i, len, h1, h2, by rw [ho]; exact ⟨h3.1, k4⟩⟩
    | some (.inr (.inl r)), h3 =>
      exact ⟨r.1, r.2.1, r.2.2.1, r.2.2.2, h3.2, h3.1, i, len, h1, h2, by rw [ho]; exact ⟨h3.1, rfl, rfl, rfl, rfl⟩⟩
    | some (.inr (.inr q)), h3 =>
      obtain ⟨v, c', x', u', g1, g2, g4⟩ := h3
      obtain ⟨v2, c2, x2, u2, k1, k2, k4⟩ := ih _ g4
      exact ⟨v2, c2, x2, u2, k1, en_ok_tr g2 k2, i, len, h1, h2, by rw [ho]; exact ⟨v, c', x', u', g1, g2, k4⟩⟩
theorem en_call_of {d y : Nat} {As : List Value} {c : en_H} {x u : Nat} {K : en_K} (hy : y ≠ mt_law) (h1 : As.length ≤ mt_nl y) (h2 : ∀ a ∈ As, a.category = 1) (h : en_W (en_call d) y 0 (en_lv0 y As) [] c x u K) : ∃ v c' x' u', en_call (d + 1) y As c x u v c' x' u' ∧ K v c' x' u' ∧ en_ok c x u c' x' u' := by
  obtain ⟨n, h⟩ := h
  obtain ⟨v, c', x', u', k1, k2, k4⟩ := en_wp_path n _ h
  exact ⟨v, c', x', u', ⟨hy, h1, h2, n, k4⟩, k1, k2⟩
theorem en_call_is {d y : Nat} {As : List Value} {c : en_H} {x u : Nat} {v : Option Value} {c' : en_H} {x' u' : Nat} (hy : y ≠ mt_law) (h1 : As.length ≤ mt_nl y) (h2 : ∀ a ∈ As, a.category = 1) (h : en_W (en_call d) y 0 (en_lv0 y As) [] c x u (en_q v c' x' u')) : en_call (d + 1) y As c x u v c' x' u' := ⟨hy, h1, h2, h⟩
theorem en_call_up {d y : Nat} {As : List Value} {c : en_H} {x u : Nat} {v : Option Value} {c' : en_H} {x' u' : Nat} (h : en_call d y As c x u v c' x' u') : en_ok c x u c' x' u' := by
  cases d with
  | zero => exact h.elim
  | succ d =>
    obtain ⟨-, -, -, n, h⟩ := h
    obtain ⟨v2, c2, x2, u2, ⟨-, rfl, rfl, rfl⟩, k2, -⟩ := en_wp_path n _ h
    exact k2
/-- a call, with what comes behind it -/
def en_cl (rel : en_R) (y : Nat) (As : List Value) (c : en_H) (x u : Nat) (k : en_K) : Prop := ∃ v c' x' u', rel y As c x u v c' x' u' ∧ en_ok c x u c' x' u' ∧ k v c' x' u'
theorem en_use {d d' y : Nat} {As : List Value} {c : en_H} {x u : Nat} {v : Option Value} {c' : en_H} {x' u' : Nat} {k : en_K} (hd : d ≤ d') (h : en_call d y As c x u v c' x' u') (hk : k v c' x' u') : en_cl (en_call d') y As c x u k := ⟨v, c', x', u', en_call_le hd h, en_call_up h, hk⟩
theorem en_wp_at {rel : en_R} {y : Nat} {K : en_K} {n pc : Nat} {lv : en_L} {st : List Value} {c : en_H} {x u : Nat} {i : Jvm.ClassFile.Instr} {len : Nat} (h : decode (mt_code y) pc = .ok (i, len)) (w : en_wp rel y K n (pc, lv, st, c, x, u)) : ∃ k, n = k + 1 ∧ en_nx rel (en_wp rel y K k) K c x u (en_step y i pc lv st c x u) := by
  cases n with
  | zero => exact w.elim
  | succ k =>
    obtain ⟨i2, len2, h1, h2, h3⟩ := w
    have e := h.symm.trans h1
    cases e
    exact ⟨k, rfl, h3⟩
theorem en_eq {rel : en_R} {y pc : Nat} {lv : en_L} {st : List Value} {c : en_H} {x u : Nat} {K : en_K} {i : Jvm.ClassFile.Instr} {len : Nat} (h : decode (mt_code y) pc = .ok (i, len)) (hl : len = en_len i ∨ en_len i = 0) :
    en_W rel y pc lv st c x u K = en_nx rel (fun f => en_W rel y f.1 f.2.1 f.2.2.1 f.2.2.2.1 f.2.2.2.2.1 f.2.2.2.2.2 K) K c x u (en_step y i pc lv st c x u) := by
  refine propext ⟨fun w => ?_, fun w => ?_⟩
  · obtain ⟨n, w⟩ := w
    obtain ⟨k, -, w⟩ := en_wp_at h w
    exact en_nx_mono (fun _ _ _ _ _ _ _ _ _ h => h) (fun f hf => ⟨k, hf⟩) (fun _ _ _ _ h => h) w
  · generalize ho : en_step y i pc lv st c x u = o at w
    match o, w with
    | some (.inl f), w =>
      obtain ⟨w1, n, w2⟩ := w
      exact ⟨n + 1, i, len, h, hl, by show en_nx rel _ K c x u (en_step y i pc lv st c x u); rw [ho]; exact ⟨w1, w2⟩⟩
    | some (.inr (.inl r)), w => exact ⟨1, i, len, h, hl, by show en_nx rel _ K c x u (en_step y i pc lv st c x u); rw [ho]; exact w⟩
    | some (.inr (.inr q)), w =>
      obtain ⟨v, c', x', u', g1, g2, n, g4⟩ := w
      exact ⟨n + 1, i, len, h, hl, by show en_nx rel _ K c x u (en_step y i pc lv st c x u); rw [ho]; exact ⟨v, c', x', u', g1, g2, g4⟩⟩
theorem en_go {rel : en_R} {y pc : Nat} {lv : en_L} {st : List Value} {c : en_H} {x u : Nat} {K : en_K} {i : Jvm.ClassFile.Instr} {len pc' : Nat} {lv' : en_L} {st' : List Value} {c' : en_H} {x' u' : Nat} (h : decode (mt_code y) pc = .ok (i, len)) (hl : len = en_len i ∨ en_len i = 0) (hs : en_step y i pc lv st c x u = some (.inl (pc', lv', st', c', x', u'))) (ho : en_ok c x u c' x' u') :
    en_W rel y pc lv st c x u K = en_W rel y pc' lv' st' c' x' u' K := by
  rw [en_eq h hl, hs]
  exact propext ⟨fun w => w.2, fun w => ⟨ho, w⟩⟩
theorem en_rt {rel : en_R} {y pc : Nat} {lv : en_L} {st : List Value} {c : en_H} {x u : Nat} {K : en_K} {i : Jvm.ClassFile.Instr} {len : Nat} {v : Option Value} (h : decode (mt_code y) pc = .ok (i, len)) (hl : len = en_len i ∨ en_len i = 0) (hs : en_step y i pc lv st c x u = some (.inr (.inl (v, c, x, u)))) :
    en_W rel y pc lv st c x u K = K v c x u := by
  rw [en_eq h hl, hs]
  exact propext ⟨fun w => w.2, fun w => ⟨en_ok_rf, w⟩⟩
end
section
/-! THE ENGINE: one row an instruction, as an equation. -/
theorem en_nx_if {rel : en_R} {go : en_F → Prop} {K : en_K} {c : en_H} {x u : Nat} {p : Prop} {pc' : Nat} {lv' : en_L} {st' : List Value} {c' : en_H} {x' u' : Nat} : en_nx rel go K c x u (en_if p (en_fr pc' lv' st' c' x' u') none) = (p ∧ en_ok c x u c' x' u' ∧ go (pc', lv', st', c', x', u')) := by
  by_cases h : p
  · rw [en_if_t h]
    exact propext ⟨fun w => ⟨h, w⟩, fun w => w.2⟩
  · rw [en_if_f h]
    exact propext ⟨fun w => w.elim, fun w => h w.1⟩
theorem en_nx_if2 {rel : en_R} {go : en_F → Prop} {K : en_K} {c : en_H} {x u : Nat} {p : Prop} {o : en_O} : en_nx rel go K c x u (en_if p o none) = (p ∧ en_nx rel go K c x u o) := by
  by_cases h : p
  · rw [en_if_t h]
    exact propext ⟨fun w => ⟨h, w⟩, fun w => w.2⟩
  · rw [en_if_f h]
    exact propext ⟨fun w => w.elim, fun w => h w.1⟩
def en_rdI (e : en_C) (t0 : Nat) (k : Nat → (Nat → Int32) → Prop) : Prop := match e with
  | .inl (t, n, .inl f) => t = t0 ∧ k n f
  | _ => False
theorem en_rdI_eq {t n : Nat} {f : Nat → Int32} {k : Nat → (Nat → Int32) → Prop} : en_rdI (.inl (t, n, .inl f)) t k = k n f := propext ⟨fun h => h.2, fun h => ⟨rfl, h⟩⟩
def en_rdL (e : en_C) (k : Nat → (Nat → Int64) → Prop) : Prop := match e with
  | .inl (t, n, .inr (.inl f)) => t = 1 ∧ k n f
  | _ => False
theorem en_rdL_eq {n : Nat} {f : Nat → Int64} {k : Nat → (Nat → Int64) → Prop} : en_rdL (.inl (1, n, .inr (.inl f))) k = k n f := propext ⟨fun h => h.2, fun h => ⟨rfl, h⟩⟩
def en_rdN (e : en_C) (k : Nat → Nat → Prop) : Prop := match e with
  | .inl (t, n, _) => k t n
  | _ => False
theorem en_rdN_eq {t n : Nat} {f : (Nat → Int32) ⊕ (Nat → Int64) ⊕ (Nat → UInt32) ⊕ (Nat → UInt64) ⊕ (Nat → Option Nat)} {k : Nat → Nat → Prop} : en_rdN (.inl (t, n, f)) k = k t n := rfl
def en_rdO (e : en_C) (ci : Nat) (k : List Value → Prop) : Prop := match e with
  | .inr (ci', fs) => ci' = ci ∧ k fs
  | _ => False
theorem en_rdO_eq {ci : Nat} {fs : List Value} {k : List Value → Prop} : en_rdO (.inr (ci, fs)) ci k = k fs := propext ⟨fun h => h.2, fun h => ⟨rfl, h⟩⟩
def en_gv (o : Option Value) (k : Value → Prop) : Prop := match o with
  | some v => k v
  | none => False
theorem en_gv_eq {v : Value} {k : Value → Prop} : en_gv (some v) k = k v := rfl
section EST
variable {rel : en_R} {y pc : Nat} {lv : en_L} {st : List Value} {c : en_H} {x u : Nat} {K : en_K}
theorem st_iconst {n : Int} {v : Int32} (h : decode (mt_code y) pc = .ok (.iconst n, 1)) (hv : Int32.ofInt n = v) : en_W rel y pc lv (st) c x u K = en_W rel y (pc + 1) lv (.int v :: st) c x u K := by
  subst hv; exact en_go h (Or.inl rfl) rfl en_ok_rf
theorem st_bipush {n : Int} {v : Int32} (h : decode (mt_code y) pc = .ok (.bipush n, 2)) (hv : (Int8.ofInt n).toInt32 = v) : en_W rel y pc lv (st) c x u K = en_W rel y (pc + 2) lv (.int v :: st) c x u K := by
  subst hv; exact en_go h (Or.inl rfl) rfl en_ok_rf
theorem st_sipush {n : Int} {v : Int32} (h : decode (mt_code y) pc = .ok (.sipush n, 3)) (hv : (Int16.ofInt n).toInt32 = v) : en_W rel y pc lv (st) c x u K = en_W rel y (pc + 3) lv (.int v :: st) c x u K := by
  subst hv; exact en_go h (Or.inl rfl) rfl en_ok_rf
theorem st_ldc {n : Nat} {v : Int32} (h : decode (mt_code y) pc = .ok (.ldc n, 2)) (hv : tb_ldc (mt_cls y) n = some v) : en_W rel y pc lv (st) c x u K = en_W rel y (pc + 2) lv (.int v :: st) c x u K := by
  exact en_go h (Or.inl rfl) (by show en_op (tb_ldc (mt_cls y) n) _ = _; rw [hv]; rfl) en_ok_rf
theorem st_lconst {n : Fin 2} {v : Int64} (h : decode (mt_code y) pc = .ok (.lconst n, 1)) (hv : Int64.ofNat (n : Nat) = v) : en_W rel y pc lv (st) c x u K = en_W rel y (pc + 1) lv (.long v :: st) c x u K := by
  subst hv; exact en_go h (Or.inl rfl) rfl en_ok_rf
theorem st_iload {i : Nat} {a : Int32} (h : decode (mt_code y) pc = .ok (.iload i, 2)) (hl : lv[i]? = some (some (.int a))) : en_W rel y pc lv (st) c x u K = en_W rel y (pc + 2) lv (.int a :: st) c x u K := by
  exact en_go h (Or.inl rfl) (by show en_ldI lv i _ = _; unfold en_ldI; rw [hl]; rfl) en_ok_rf
theorem st_iload_n {k : Fin 4} {i : Nat} {a : Int32} (h : decode (mt_code y) pc = .ok (.iload_n k, 1)) (hi : (k : Nat) = i) (hl : lv[i]? = some (some (.int a))) : en_W rel y pc lv (st) c x u K = en_W rel y (pc + 1) lv (.int a :: st) c x u K := by
  exact en_go h (Or.inl rfl) (by show en_ldI lv (k : Nat) _ = _; unfold en_ldI; rw [hi, hl]; rfl) en_ok_rf
theorem st_istore {i : Nat} {a : Int32} {lv' : en_L} (h : decode (mt_code y) pc = .ok (.istore i, 2)) (hn : i < lv.length) (hl : lv.set i (some (.int a)) = lv') : en_W rel y pc lv (.int a :: st) c x u K = en_W rel y (pc + 2) lv' st c x u K := by
  subst hl; exact en_go h (Or.inl rfl) (by show en_sto (pc + 2) lv i (.int a) st c x u = _; unfold en_sto; rw [en_if_t hn]; rfl) en_ok_rf
theorem st_istore_n {k : Fin 4} {i : Nat} {a : Int32} {lv' : en_L} (h : decode (mt_code y) pc = .ok (.istore_n k, 1)) (hi : (k : Nat) = i) (hn : i < lv.length) (hl : lv.set i (some (.int a)) = lv') : en_W rel y pc lv (.int a :: st) c x u K = en_W rel y (pc + 1) lv' st c x u K := by
  subst hl; exact en_go h (Or.inl rfl) (by show en_sto (pc + 1) lv (k : Nat) (.int a) st c x u = _; rw [hi]; unfold en_sto; rw [en_if_t hn]; rfl) en_ok_rf
theorem st_aload {i : Nat} {a : Nat} (h : decode (mt_code y) pc = .ok (.aload i, 2)) (hl : lv[i]? = some (some (.ref a))) : en_W rel y pc lv (st) c x u K = en_W rel y (pc + 2) lv (.ref a :: st) c x u K := by
  exact en_go h (Or.inl rfl) (by show en_ldA lv i _ = _; unfold en_ldA; rw [hl]; rfl) en_ok_rf
theorem st_aload_n {k : Fin 4} {i : Nat} {a : Nat} (h : decode (mt_code y) pc = .ok (.aload_n k, 1)) (hi : (k : Nat) = i) (hl : lv[i]? = some (some (.ref a))) : en_W rel y pc lv (st) c x u K = en_W rel y (pc + 1) lv (.ref a :: st) c x u K := by
  exact en_go h (Or.inl rfl) (by show en_ldA lv (k : Nat) _ = _; unfold en_ldA; rw [hi, hl]; rfl) en_ok_rf
theorem st_astore {i : Nat} {a : Nat} {lv' : en_L} (h : decode (mt_code y) pc = .ok (.astore i, 2)) (hn : i < lv.length) (hl : lv.set i (some (.ref a)) = lv') : en_W rel y pc lv (.ref a :: st) c x u K = en_W rel y (pc + 2) lv' st c x u K := by
  subst hl; exact en_go h (Or.inl rfl) (by show en_sto (pc + 2) lv i (.ref a) st c x u = _; unfold en_sto; rw [en_if_t hn]; rfl) en_ok_rf
theorem st_astore_n {k : Fin 4} {i : Nat} {a : Nat} {lv' : en_L} (h : decode (mt_code y) pc = .ok (.astore_n k, 1)) (hi : (k : Nat) = i) (hn : i < lv.length) (hl : lv.set i (some (.ref a)) = lv') : en_W rel y pc lv (.ref a :: st) c x u K = en_W rel y (pc + 1) lv' st c x u K := by
  subst hl; exact en_go h (Or.inl rfl) (by show en_sto (pc + 1) lv (k : Nat) (.ref a) st c x u = _; rw [hi]; unfold en_sto; rw [en_if_t hn]; rfl) en_ok_rf
theorem st_iinc {i : Nat} {k : Int} {a b : Int32} {lv' : en_L} (h : decode (mt_code y) pc = .ok (.iinc i k, 3)) (hl : lv[i]? = some (some (.int a))) (hn : i < lv.length) (hb : Int32.ofInt k = b) (hs : lv.set i (some (.int (a + b))) = lv') : en_W rel y pc lv (st) c x u K = en_W rel y (pc + 3) lv' st c x u K := by
  subst hb; subst hs; exact en_go h (Or.inl rfl) (by show en_ldI lv i _ = _; unfold en_ldI; rw [hl]; show en_sto (pc + 3) lv i _ st c x u = _; unfold en_sto; rw [en_if_t hn]; rfl) en_ok_rf
theorem st_iadd {a b : Int32} (h : decode (mt_code y) pc = .ok (.iadd, 1)) : en_W rel y pc lv (.int b :: .int a :: st) c x u K = en_W rel y (pc + 1) lv (.int (a + b) :: st) c x u K := by
  exact en_go h (Or.inl rfl) rfl en_ok_rf
theorem st_isub {a b : Int32} (h : decode (mt_code y) pc = .ok (.isub, 1)) : en_W rel y pc lv (.int b :: .int a :: st) c x u K = en_W rel y (pc + 1) lv (.int (a - b) :: st) c x u K := by
  exact en_go h (Or.inl rfl) rfl en_ok_rf
theorem st_imul {a b : Int32} (h : decode (mt_code y) pc = .ok (.imul, 1)) : en_W rel y pc lv (.int b :: .int a :: st) c x u K = en_W rel y (pc + 1) lv (.int (a * b) :: st) c x u K := by
  exact en_go h (Or.inl rfl) rfl en_ok_rf
theorem st_iand {a b : Int32} (h : decode (mt_code y) pc = .ok (.iand, 1)) : en_W rel y pc lv (.int b :: .int a :: st) c x u K = en_W rel y (pc + 1) lv (.int (a &&& b) :: st) c x u K := by
  exact en_go h (Or.inl rfl) rfl en_ok_rf
theorem st_idiv {a b : Int32} (h : decode (mt_code y) pc = .ok (.idiv, 1)) (hb : ¬ b = 0) : en_W rel y pc lv (.int b :: .int a :: st) c x u K = en_W rel y (pc + 1) lv (.int (a / b) :: st) c x u K := by
  exact en_go h (Or.inl rfl) (en_if_t hb) en_ok_rf
theorem st_irem {a b : Int32} (h : decode (mt_code y) pc = .ok (.irem, 1)) (hb : ¬ b = 0) : en_W rel y pc lv (.int b :: .int a :: st) c x u K = en_W rel y (pc + 1) lv (.int (a - a / b * b) :: st) c x u K := by
  exact en_go h (Or.inl rfl) (en_if_t hb) en_ok_rf
theorem st_land {a b : Int64} (h : decode (mt_code y) pc = .ok (.land, 1)) : en_W rel y pc lv (.long b :: .long a :: st) c x u K = en_W rel y (pc + 1) lv (.long (a &&& b) :: st) c x u K := by
  exact en_go h (Or.inl rfl) rfl en_ok_rf
theorem st_lor {a b : Int64} (h : decode (mt_code y) pc = .ok (.lor, 1)) : en_W rel y pc lv (.long b :: .long a :: st) c x u K = en_W rel y (pc + 1) lv (.long (a ||| b) :: st) c x u K := by
  exact en_go h (Or.inl rfl) rfl en_ok_rf
theorem st_lcmp {a b : Int64} (h : decode (mt_code y) pc = .ok (.lcmp, 1)) : en_W rel y pc lv (.long b :: .long a :: st) c x u K = en_W rel y (pc + 1) lv (.int (lg_cmp a b) :: st) c x u K := by
  exact en_go h (Or.inl rfl) rfl en_ok_rf
theorem st_lshl {a : Int64} {b : Int32} (h : decode (mt_code y) pc = .ok (.lshl, 1)) : en_W rel y pc lv (.int b :: .long a :: st) c x u K = en_W rel y (pc + 1) lv (.long (a <<< (b.toInt64 &&& 63)) :: st) c x u K := by
  exact en_go h (Or.inl rfl) rfl en_ok_rf
theorem st_lshr {a : Int64} {b : Int32} (h : decode (mt_code y) pc = .ok (.lshr, 1)) : en_W rel y pc lv (.int b :: .long a :: st) c x u K = en_W rel y (pc + 1) lv (.long (a >>> (b.toInt64 &&& 63)) :: st) c x u K := by
  exact en_go h (Or.inl rfl) rfl en_ok_rf
theorem st_lushr {a : Int64} {b : Int32} (h : decode (mt_code y) pc = .ok (.lushr, 1)) : en_W rel y pc lv (.int b :: .long a :: st) c x u K = en_W rel y (pc + 1) lv (.long ((a.toUInt64 >>> (b.toInt64.toUInt64 &&& Int64.toUInt64 63)).toInt64) :: st) c x u K := by
  exact en_go h (Or.inl rfl) rfl en_ok_rf
theorem st_dup {v : Value} (h : decode (mt_code y) pc = .ok (.dup, 1)) (hv : v.category = 1) : en_W rel y pc lv (v :: st) c x u K = en_W rel y (pc + 1) lv (v :: v :: st) c x u K := by
  exact en_go h (Or.inl rfl) (en_if_t hv) en_ok_rf
theorem st_dup2 {v w : Value} (h : decode (mt_code y) pc = .ok (.dup2, 1)) (hv : v.category = 1 ∧ w.category = 1) : en_W rel y pc lv (v :: w :: st) c x u K = en_W rel y (pc + 1) lv (v :: w :: v :: w :: st) c x u K := by
  exact en_go h (Or.inl rfl) (en_if_t hv) en_ok_rf
theorem st_pop {v : Value} (h : decode (mt_code y) pc = .ok (.pop, 1)) (hv : v.category = 1) : en_W rel y pc lv (v :: st) c x u K = en_W rel y (pc + 1) lv (st) c x u K := by
  exact en_go h (Or.inl rfl) (en_if_t hv) en_ok_rf
theorem en_tg_eq {pc tgt : Nat} {off : Int} {lv : en_L} {st : List Value} {c : en_H} {x u : Nat} (ht : (pc : Int) + off = (tgt : Int)) : en_tg pc off lv st c x u = en_fr tgt lv st c x u := by
  unfold en_tg
  rw [ht, en_if_t (Int.natCast_nonneg tgt), Int.toNat_natCast]
theorem st_goto {off : Int} {tgt : Nat} (h : decode (mt_code y) pc = .ok (.goto off, 3)) (ht : (pc : Int) + off = (tgt : Int)) : en_W rel y pc lv (st) c x u K = en_W rel y tgt lv st c x u K := by
  exact en_go h (Or.inl rfl) (en_tg_eq ht) en_ok_rf
theorem st_if_eq {a : Int32} {off : Int} {tgt : Nat} (h : decode (mt_code y) pc = .ok (.ifCond .eq off, 3)) (ht : (pc : Int) + off = (tgt : Int)) : en_W rel y pc lv (.int a :: st) c x u K = (if a = 0 then en_W rel y tgt lv st c x u K else en_W rel y (pc + 3) lv st c x u K) := by
  by_cases hc : a = 0
  · rw [if_pos hc]; exact en_go h (Or.inl rfl) (by show en_if (0 ≤ (pc : Int) + off) (en_if (a = 0) _ _) none = _; rw [ht, en_if_t (Int.natCast_nonneg tgt), en_if_t hc, Int.toNat_natCast]; rfl) en_ok_rf
  · rw [if_neg hc]; exact en_go h (Or.inl rfl) (by show en_if (0 ≤ (pc : Int) + off) (en_if (a = 0) _ _) none = _; rw [ht, en_if_t (Int.natCast_nonneg tgt), en_if_f hc]; rfl) en_ok_rf
theorem st_icmp_eq {a b : Int32} {off : Int} {tgt : Nat} (h : decode (mt_code y) pc = .ok (.if_icmp .eq off, 3)) (ht : (pc : Int) + off = (tgt : Int)) : en_W rel y pc lv (.int b :: .int a :: st) c x u K = (if a = b then en_W rel y tgt lv st c x u K else en_W rel y (pc + 3) lv st c x u K) := by
  by_cases hc : a = b
  · rw [if_pos hc]; exact en_go h (Or.inl rfl) (by show en_if (0 ≤ (pc : Int) + off) (en_if (a = b) _ _) none = _; rw [ht, en_if_t (Int.natCast_nonneg tgt), en_if_t hc, Int.toNat_natCast]; rfl) en_ok_rf
  · rw [if_neg hc]; exact en_go h (Or.inl rfl) (by show en_if (0 ≤ (pc : Int) + off) (en_if (a = b) _ _) none = _; rw [ht, en_if_t (Int.natCast_nonneg tgt), en_if_f hc]; rfl) en_ok_rf
theorem st_if_ne {a : Int32} {off : Int} {tgt : Nat} (h : decode (mt_code y) pc = .ok (.ifCond .ne off, 3)) (ht : (pc : Int) + off = (tgt : Int)) : en_W rel y pc lv (.int a :: st) c x u K = (if a = 0 then en_W rel y (pc + 3) lv st c x u K else en_W rel y tgt lv st c x u K) := by
  by_cases hc : a = 0
  · rw [if_pos hc]; exact en_go h (Or.inl rfl) (by show en_if (0 ≤ (pc : Int) + off) (en_if (¬ a = 0) _ _) none = _; rw [ht, en_if_t (Int.natCast_nonneg tgt), en_if_f (fun z => z hc)]; rfl) en_ok_rf
  · rw [if_neg hc]; exact en_go h (Or.inl rfl) (by show en_if (0 ≤ (pc : Int) + off) (en_if (¬ a = 0) _ _) none = _; rw [ht, en_if_t (Int.natCast_nonneg tgt), en_if_t hc, Int.toNat_natCast]; rfl) en_ok_rf
theorem st_icmp_ne {a b : Int32} {off : Int} {tgt : Nat} (h : decode (mt_code y) pc = .ok (.if_icmp .ne off, 3)) (ht : (pc : Int) + off = (tgt : Int)) : en_W rel y pc lv (.int b :: .int a :: st) c x u K = (if a = b then en_W rel y (pc + 3) lv st c x u K else en_W rel y tgt lv st c x u K) := by
  by_cases hc : a = b
  · rw [if_pos hc]; exact en_go h (Or.inl rfl) (by show en_if (0 ≤ (pc : Int) + off) (en_if (¬ a = b) _ _) none = _; rw [ht, en_if_t (Int.natCast_nonneg tgt), en_if_f (fun z => z hc)]; rfl) en_ok_rf
  · rw [if_neg hc]; exact en_go h (Or.inl rfl) (by show en_if (0 ≤ (pc : Int) + off) (en_if (¬ a = b) _ _) none = _; rw [ht, en_if_t (Int.natCast_nonneg tgt), en_if_t hc, Int.toNat_natCast]; rfl) en_ok_rf
theorem st_if_lt {a : Int32} {off : Int} {tgt : Nat} (h : decode (mt_code y) pc = .ok (.ifCond .lt off, 3)) (ht : (pc : Int) + off = (tgt : Int)) : en_W rel y pc lv (.int a :: st) c x u K = (if a < 0 then en_W rel y tgt lv st c x u K else en_W rel y (pc + 3) lv st c x u K) := by
  by_cases hc : a < 0
  · rw [if_pos hc]; exact en_go h (Or.inl rfl) (by show en_if (0 ≤ (pc : Int) + off) (en_if (a < 0) _ _) none = _; rw [ht, en_if_t (Int.natCast_nonneg tgt), en_if_t hc, Int.toNat_natCast]; rfl) en_ok_rf
  · rw [if_neg hc]; exact en_go h (Or.inl rfl) (by show en_if (0 ≤ (pc : Int) + off) (en_if (a < 0) _ _) none = _; rw [ht, en_if_t (Int.natCast_nonneg tgt), en_if_f hc]; rfl) en_ok_rf
theorem st_icmp_lt {a b : Int32} {off : Int} {tgt : Nat} (h : decode (mt_code y) pc = .ok (.if_icmp .lt off, 3)) (ht : (pc : Int) + off = (tgt : Int)) : en_W rel y pc lv (.int b :: .int a :: st) c x u K = (if a < b then en_W rel y tgt lv st c x u K else en_W rel y (pc + 3) lv st c x u K) := by
  by_cases hc : a < b
  · rw [if_pos hc]; exact en_go h (Or.inl rfl) (by show en_if (0 ≤ (pc : Int) + off) (en_if (a < b) _ _) none = _; rw [ht, en_if_t (Int.natCast_nonneg tgt), en_if_t hc, Int.toNat_natCast]; rfl) en_ok_rf
  · rw [if_neg hc]; exact en_go h (Or.inl rfl) (by show en_if (0 ≤ (pc : Int) + off) (en_if (a < b) _ _) none = _; rw [ht, en_if_t (Int.natCast_nonneg tgt), en_if_f hc]; rfl) en_ok_rf
theorem st_if_ge {a : Int32} {off : Int} {tgt : Nat} (h : decode (mt_code y) pc = .ok (.ifCond .ge off, 3)) (ht : (pc : Int) + off = (tgt : Int)) : en_W rel y pc lv (.int a :: st) c x u K = (if 0 ≤ a then en_W rel y tgt lv st c x u K else en_W rel y (pc + 3) lv st c x u K) := by
  by_cases hc : 0 ≤ a
  · rw [if_pos hc]; exact en_go h (Or.inl rfl) (by show en_if (0 ≤ (pc : Int) + off) (en_if (0 ≤ a) _ _) none = _; rw [ht, en_if_t (Int.natCast_nonneg tgt), en_if_t hc, Int.toNat_natCast]; rfl) en_ok_rf
  · rw [if_neg hc]; exact en_go h (Or.inl rfl) (by show en_if (0 ≤ (pc : Int) + off) (en_if (0 ≤ a) _ _) none = _; rw [ht, en_if_t (Int.natCast_nonneg tgt), en_if_f hc]; rfl) en_ok_rf
theorem st_icmp_ge {a b : Int32} {off : Int} {tgt : Nat} (h : decode (mt_code y) pc = .ok (.if_icmp .ge off, 3)) (ht : (pc : Int) + off = (tgt : Int)) : en_W rel y pc lv (.int b :: .int a :: st) c x u K = (if b ≤ a then en_W rel y tgt lv st c x u K else en_W rel y (pc + 3) lv st c x u K) := by
  by_cases hc : b ≤ a
  · rw [if_pos hc]; exact en_go h (Or.inl rfl) (by show en_if (0 ≤ (pc : Int) + off) (en_if (b ≤ a) _ _) none = _; rw [ht, en_if_t (Int.natCast_nonneg tgt), en_if_t hc, Int.toNat_natCast]; rfl) en_ok_rf
  · rw [if_neg hc]; exact en_go h (Or.inl rfl) (by show en_if (0 ≤ (pc : Int) + off) (en_if (b ≤ a) _ _) none = _; rw [ht, en_if_t (Int.natCast_nonneg tgt), en_if_f hc]; rfl) en_ok_rf
theorem st_if_gt {a : Int32} {off : Int} {tgt : Nat} (h : decode (mt_code y) pc = .ok (.ifCond .gt off, 3)) (ht : (pc : Int) + off = (tgt : Int)) : en_W rel y pc lv (.int a :: st) c x u K = (if 0 < a then en_W rel y tgt lv st c x u K else en_W rel y (pc + 3) lv st c x u K) := by
  by_cases hc : 0 < a
  · rw [if_pos hc]; exact en_go h (Or.inl rfl) (by show en_if (0 ≤ (pc : Int) + off) (en_if (0 < a) _ _) none = _; rw [ht, en_if_t (Int.natCast_nonneg tgt), en_if_t hc, Int.toNat_natCast]; rfl) en_ok_rf
  · rw [if_neg hc]; exact en_go h (Or.inl rfl) (by show en_if (0 ≤ (pc : Int) + off) (en_if (0 < a) _ _) none = _; rw [ht, en_if_t (Int.natCast_nonneg tgt), en_if_f hc]; rfl) en_ok_rf
theorem st_icmp_gt {a b : Int32} {off : Int} {tgt : Nat} (h : decode (mt_code y) pc = .ok (.if_icmp .gt off, 3)) (ht : (pc : Int) + off = (tgt : Int)) : en_W rel y pc lv (.int b :: .int a :: st) c x u K = (if b < a then en_W rel y tgt lv st c x u K else en_W rel y (pc + 3) lv st c x u K) := by
  by_cases hc : b < a
  · rw [if_pos hc]; exact en_go h (Or.inl rfl) (by show en_if (0 ≤ (pc : Int) + off) (en_if (b < a) _ _) none = _; rw [ht, en_if_t (Int.natCast_nonneg tgt), en_if_t hc, Int.toNat_natCast]; rfl) en_ok_rf
  · rw [if_neg hc]; exact en_go h (Or.inl rfl) (by show en_if (0 ≤ (pc : Int) + off) (en_if (b < a) _ _) none = _; rw [ht, en_if_t (Int.natCast_nonneg tgt), en_if_f hc]; rfl) en_ok_rf
theorem st_if_le {a : Int32} {off : Int} {tgt : Nat} (h : decode (mt_code y) pc = .ok (.ifCond .le off, 3)) (ht : (pc : Int) + off = (tgt : Int)) : en_W rel y pc lv (.int a :: st) c x u K = (if a ≤ 0 then en_W rel y tgt lv st c x u K else en_W rel y (pc + 3) lv st c x u K) := by
  by_cases hc : a ≤ 0
  · rw [if_pos hc]; exact en_go h (Or.inl rfl) (by show en_if (0 ≤ (pc : Int) + off) (en_if (a ≤ 0) _ _) none = _; rw [ht, en_if_t (Int.natCast_nonneg tgt), en_if_t hc, Int.toNat_natCast]; rfl) en_ok_rf
  · rw [if_neg hc]; exact en_go h (Or.inl rfl) (by show en_if (0 ≤ (pc : Int) + off) (en_if (a ≤ 0) _ _) none = _; rw [ht, en_if_t (Int.natCast_nonneg tgt), en_if_f hc]; rfl) en_ok_rf
theorem st_icmp_le {a b : Int32} {off : Int} {tgt : Nat} (h : decode (mt_code y) pc = .ok (.if_icmp .le off, 3)) (ht : (pc : Int) + off = (tgt : Int)) : en_W rel y pc lv (.int b :: .int a :: st) c x u K = (if a ≤ b then en_W rel y tgt lv st c x u K else en_W rel y (pc + 3) lv st c x u K) := by
  by_cases hc : a ≤ b
  · rw [if_pos hc]; exact en_go h (Or.inl rfl) (by show en_if (0 ≤ (pc : Int) + off) (en_if (a ≤ b) _ _) none = _; rw [ht, en_if_t (Int.natCast_nonneg tgt), en_if_t hc, Int.toNat_natCast]; rfl) en_ok_rf
  · rw [if_neg hc]; exact en_go h (Or.inl rfl) (by show en_if (0 ≤ (pc : Int) + off) (en_if (a ≤ b) _ _) none = _; rw [ht, en_if_t (Int.natCast_nonneg tgt), en_if_f hc]; rfl) en_ok_rf
theorem st_iald {a : Nat} {i : Int32} (h : decode (mt_code y) pc = .ok (.iaload, 1)) : en_W rel y pc lv (.int i :: .ref a :: st) c x u K = en_rdI (c a) 0 (fun n f => en_rd y a x ∧ vp_in i n ∧ en_W rel y (pc + 1) lv (.int (f i.toNatClampNeg) :: st) c x u K) := by
  rw [en_eq h (Or.inl rfl)]
  show en_nx rel _ K c x u (en_arI (c a) (fun t n f => en_if (t = 0 ∧ en_rd y a x ∧ vp_in i n) (en_fr (pc + 1) lv (.int (f i.toNatClampNeg) :: st) c x u) none)) = _
  generalize c a = e
  match e with
  | .inl (t, n, .inl f) =>
    refine (en_nx_if).trans (propext ⟨fun w => ⟨w.1.1, w.1.2.1, w.1.2.2, w.2.2⟩, fun w => ⟨⟨w.1, w.2.1, w.2.2.1⟩, en_ok_rf, w.2.2.2⟩⟩)
  | .inl (t, n, .inr f) => rfl
  | .inr q => rfl
theorem st_zald {a : Nat} {i : Int32} (h : decode (mt_code y) pc = .ok (.baload, 1)) : en_W rel y pc lv (.int i :: .ref a :: st) c x u K = en_rdI (c a) 2 (fun n f => a < x ∧ vp_in i n ∧ en_W rel y (pc + 1) lv (.int (f i.toNatClampNeg) :: st) c x u K) := by
  rw [en_eq h (Or.inl rfl)]
  show en_nx rel _ K c x u (en_arI (c a) (fun t n f => en_if (t = 2 ∧ a < x ∧ vp_in i n) (en_fr (pc + 1) lv (.int (f i.toNatClampNeg) :: st) c x u) none)) = _
  generalize c a = e
  match e with
  | .inl (t, n, .inl f) =>
    refine (en_nx_if).trans (propext ⟨fun w => ⟨w.1.1, w.1.2.1, w.1.2.2, w.2.2⟩, fun w => ⟨⟨w.1, w.2.1, w.2.2.1⟩, en_ok_rf, w.2.2.2⟩⟩)
  | .inl (t, n, .inr f) => rfl
  | .inr q => rfl
theorem st_lald {a : Nat} {i : Int32} (h : decode (mt_code y) pc = .ok (.laload, 1)) : en_W rel y pc lv (.int i :: .ref a :: st) c x u K = en_rdL (c a) (fun n f => a < x ∧ vp_in i n ∧ en_W rel y (pc + 1) lv (.long (f i.toNatClampNeg) :: st) c x u K) := by
  rw [en_eq h (Or.inl rfl)]
  show en_nx rel _ K c x u (en_arL (c a) (fun t n f => en_if (t = 1 ∧ a < x ∧ vp_in i n) (en_fr (pc + 1) lv (.long (f i.toNatClampNeg) :: st) c x u) none)) = _
  generalize c a = e
  match e with
  | .inl (t, n, .inr (.inl f)) =>
    refine (en_nx_if).trans (propext ⟨fun w => ⟨w.1.1, w.1.2.1, w.1.2.2, w.2.2⟩, fun w => ⟨⟨w.1, w.2.1, w.2.2.1⟩, en_ok_rf, w.2.2.2⟩⟩)
  | .inl (t, n, .inr (.inr f)) => rfl
  | .inl (t, n, .inl f) => rfl
  | .inr q => rfl
theorem st_iast {a : Nat} {i v : Int32} (h : decode (mt_code y) pc = .ok (.iastore, 1)) : en_W rel y pc lv (.int v :: .int i :: .ref a :: st) c x u K = en_rdI (c a) 0 (fun n f => a < x ∧ vp_in i n ∧ en_W rel y (pc + 1) lv st (en_up c a (.inl (0, n, .inl (upd f i.toNatClampNeg v)))) x u K) := by
  rw [en_eq h (Or.inl rfl)]
  show en_nx rel _ K c x u (en_arI (c a) (fun t n f => en_if (t = 0 ∧ a < x ∧ vp_in i n) (en_fr (pc + 1) lv st (en_up c a (.inl (0, n, .inl (upd f i.toNatClampNeg v)))) x u) none)) = _
  generalize c a = e
  match e with
  | .inl (t, n, .inl f) =>
    refine (en_nx_if).trans (propext ⟨fun w => ⟨w.1.1, w.1.2.1, w.1.2.2, w.2.2⟩, fun w => ⟨⟨w.1, w.2.1, w.2.2.1⟩, en_ok_up w.2.1, w.2.2.2⟩⟩)
  | .inl (t, n, .inr f) => rfl
  | .inr q => rfl
theorem st_zast {a : Nat} {i v : Int32} (h : decode (mt_code y) pc = .ok (.bastore, 1)) : en_W rel y pc lv (.int v :: .int i :: .ref a :: st) c x u K = en_rdI (c a) 2 (fun n f => a < x ∧ vp_in i n ∧ en_W rel y (pc + 1) lv st (en_up c a (.inl (2, n, .inl (upd f i.toNatClampNeg (vp_nar .boolean v))))) x u K) := by
  rw [en_eq h (Or.inl rfl)]
  show en_nx rel _ K c x u (en_arI (c a) (fun t n f => en_if (t = 2 ∧ a < x ∧ vp_in i n) (en_fr (pc + 1) lv st (en_up c a (.inl (2, n, .inl (upd f i.toNatClampNeg (vp_nar .boolean v))))) x u) none)) = _
  generalize c a = e
  match e with
  | .inl (t, n, .inl f) =>
    refine (en_nx_if).trans (propext ⟨fun w => ⟨w.1.1, w.1.2.1, w.1.2.2, w.2.2⟩, fun w => ⟨⟨w.1, w.2.1, w.2.2.1⟩, en_ok_up w.2.1, w.2.2.2⟩⟩)
  | .inl (t, n, .inr f) => rfl
  | .inr q => rfl
theorem st_last {a : Nat} {i : Int32} {v : Int64} (h : decode (mt_code y) pc = .ok (.lastore, 1)) : en_W rel y pc lv (.long v :: .int i :: .ref a :: st) c x u K = en_rdL (c a) (fun n f => a < x ∧ vp_in i n ∧ en_W rel y (pc + 1) lv st (en_up c a (.inl (1, n, .inr (.inl (vp_updL f i.toNatClampNeg v))))) x u K) := by
  rw [en_eq h (Or.inl rfl)]
  show en_nx rel _ K c x u (en_arL (c a) (fun t n f => en_if (t = 1 ∧ a < x ∧ vp_in i n) (en_fr (pc + 1) lv st (en_up c a (.inl (1, n, .inr (.inl (vp_updL f i.toNatClampNeg v))))) x u) none)) = _
  generalize c a = e
  match e with
  | .inl (t, n, .inr (.inl f)) =>
    refine (en_nx_if).trans (propext ⟨fun w => ⟨w.1.1, w.1.2.1, w.1.2.2, w.2.2⟩, fun w => ⟨⟨w.1, w.2.1, w.2.2.1⟩, en_ok_up w.2.1, w.2.2.2⟩⟩)
  | .inl (t, n, .inr (.inr f)) => rfl
  | .inl (t, n, .inl f) => rfl
  | .inr q => rfl
theorem st_alen {a : Nat} (h : decode (mt_code y) pc = .ok (.arraylength, 1)) : en_W rel y pc lv (.ref a :: st) c x u K = en_rdN (c a) (fun t n => t < 3 ∧ en_rd y a x ∧ (a = en_S → t = 0) ∧ en_W rel y (pc + 1) lv (.int (Int32.ofNat n) :: st) c x u K) := by
  rw [en_eq h (Or.inl rfl)]
  show en_nx rel _ K c x u (en_arN (c a) (fun t n => en_if (t < 3 ∧ en_rd y a x ∧ (a = en_S → t = 0)) (en_fr (pc + 1) lv (.int (Int32.ofNat n) :: st) c x u) none)) = _
  generalize c a = e
  match e with
  | .inl (t, n, f) =>
    refine (en_nx_if).trans (propext ⟨fun w => ⟨w.1.1, w.1.2.1, w.1.2.2, w.2.2⟩, fun w => ⟨⟨w.1, w.2.1, w.2.2.1⟩, en_ok_rf, w.2.2.2⟩⟩)
  | .inr q => rfl
theorem st_get {n ci k kd : Nat} {fin : Bool} {a : Nat} (h : decode (mt_code y) pc = .ok (.getfield n, 3)) (hf : tb_fld (mt_cls y) n = some (ci, k, kd, fin)) : en_W rel y pc lv (.ref a :: st) c x u K = en_rdO (c a) ci (fun fs => a < x ∧ en_gv (fs[k]?) (fun v => en_W rel y (pc + 3) lv (v :: st) c x u K)) := by
  rw [en_eq h (Or.inl rfl)]
  show en_nx rel _ K c x u (en_op (tb_fld (mt_cls y) n) _) = _
  rw [hf]
  show en_nx rel _ K c x u (en_ob (c a) (fun ci' fs => en_op (fs[k]?) (fun v => en_if (a < x ∧ ci' = ci) (en_fr (pc + 3) lv (v :: st) c x u) none))) = _
  generalize c a = e
  match e with
  | .inl q => rfl
  | .inr (ci', fs) =>
    show en_nx rel _ K c x u (en_op (fs[k]?) (fun v => en_if (a < x ∧ ci' = ci) (en_fr (pc + 3) lv (v :: st) c x u) none)) = (ci' = ci ∧ a < x ∧ en_gv (fs[k]?) (fun v => en_W rel y (pc + 3) lv (v :: st) c x u K))
    generalize fs[k]? = o
    match o with
    | none => exact propext ⟨fun w => w.elim, fun w => w.2.2⟩
    | some v => exact (en_nx_if).trans (propext ⟨fun w => ⟨w.1.2, w.1.1, w.2.2⟩, fun w => ⟨⟨w.2.1, w.1⟩, en_ok_rf, w.2.2⟩⟩)
theorem st_put {n ci k kd : Nat} {fin : Bool} {a : Nat} {v : Value} (h : decode (mt_code y) pc = .ok (.putfield n, 3)) (hf : tb_fld (mt_cls y) n = some (ci, k, kd, fin)) : en_W rel y pc lv (v :: .ref a :: st) c x u K = en_rdO (c a) ci (fun fs => a < x ∧ k < fs.length ∧ en_fk kd v ∧ (fin = true → mt_init y = true) ∧ en_W rel y (pc + 3) lv st (en_up c a (.inr (ci, fs.set k v))) x u K) := by
  rw [en_eq h (Or.inl rfl)]
  show en_nx rel _ K c x u (en_op (tb_fld (mt_cls y) n) _) = _
  rw [hf]
  show en_nx rel _ K c x u (en_ob (c a) (fun ci' fs => en_if (a < x ∧ ci' = ci ∧ k < fs.length ∧ en_fk kd v ∧ (fin = true → mt_init y = true)) (en_fr (pc + 3) lv st (en_up c a (.inr (ci', fs.set k v))) x u) none)) = _
  generalize c a = e
  match e with
  | .inl q => rfl
  | .inr (ci', fs) =>
    refine (en_nx_if).trans (propext ⟨fun w => ?_, fun w => ?_⟩)
    · obtain ⟨⟨h1, rfl, h3, h4, h5⟩, -, h6⟩ := w
      exact ⟨rfl, h1, h3, h4, h5, h6⟩
    · obtain ⟨rfl, h1, h3, h4, h5, h6⟩ := w
      exact ⟨⟨h1, rfl, h3, h4, h5⟩, en_ok_up h1, h6⟩
theorem st_new {n ci : Nat} {fs : List Value} (h : decode (mt_code y) pc = .ok (.new n, 3)) (hf : tb_new (mt_cls y) n = some (ci, fs)) : en_W rel y pc lv (st) c x u K = en_W rel y (pc + 3) lv (.ref x :: st) (en_up c x (.inr (ci, fs))) (x + 1) (u + fs.length) K := by
  exact en_go h (Or.inl rfl) (by show en_op (tb_new (mt_cls y) n) _ = _; rw [hf]; rfl) en_ok_new
theorem st_newa {ty : ArrayType} {t : Nat} {n : Int32} (h : decode (mt_code y) pc = .ok (.newarray ty, 2)) (hf : en_at ty = some t) : en_W rel y pc lv (.int n :: st) c x u K = ((¬ n < 0 ∧ n.toNatClampNeg ≤ 1000000) ∧ en_W rel y (pc + 2) lv (.ref x :: st) (en_up c x (en_z t n.toNatClampNeg)) (x + 1) (u + n.toNatClampNeg) K) := by
  rw [en_eq h (Or.inl rfl)]
  show en_nx rel _ K c x u (en_op (en_at ty) _) = _
  rw [hf]
  exact (en_nx_if).trans (propext ⟨fun w => ⟨w.1, w.2.2⟩, fun w => ⟨w.1, en_ok_new, w.2⟩⟩)
theorem st_virt0 {n y' ci : Nat} {a : Nat} (h : decode (mt_code y) pc = .ok (.invokevirtual n, 3)) (hf : tb_mth (mt_cls y) n = some (0, y', 0, ci)) : en_W rel y pc lv (.ref a :: st) c x u K = (en_rdO (c a) ci (fun _ => a < x ∧ st.length ≤ 4 ∧ en_cl rel y' [.ref a] c x u (fun v c' x' u' => en_W rel y (pc + 3) lv (v.toList ++ st) c' x' u' K))) := by
  rw [en_eq h (Or.inl rfl)]
  show en_nx rel _ K c x u (en_op (tb_mth (mt_cls y) n) _) = _
  rw [hf]
  show en_nx rel _ K c x u (en_if ((0 : Nat) = 0) _ none) = _
  rw [en_if_t rfl]
  show en_nx rel _ K c x u (en_if (a < x ∧ st.length ≤ 4 ∧ 0 = 0) (en_ob (c a) (fun ci' _ => en_if (ci' = ci) (some (.inr (.inr (y', [.ref a], pc + 3, lv, st)))) none)) none) = _
  rw [en_nx_if2]
  generalize c a = e
  match e with
  | .inl q => exact propext ⟨fun w => w.2.elim, fun w => w.elim⟩
  | .inr (ci', fs) =>
    show (_ ∧ en_nx rel _ K c x u (en_if (ci' = ci) _ none)) = _
    rw [en_nx_if2]
    exact propext ⟨fun w => ⟨w.2.1, w.1.1, w.1.2.1, w.2.2⟩, fun w => ⟨⟨w.2.1, w.2.2.1, rfl⟩, w.1, w.2.2.2⟩⟩
theorem st_init20 {n y' ci : Nat} {a : Nat} (h : decode (mt_code y) pc = .ok (.invokespecial n, 3)) (hf : tb_mth (mt_cls y) n = some (2, y', 0, ci)) : en_W rel y pc lv (.ref a :: st) c x u K = (st.length ≤ 4 ∧ en_cl rel y' [.ref a] c x u (fun v c' x' u' => en_W rel y (pc + 3) lv (v.toList ++ st) c' x' u' K)) := by
  rw [en_eq h (Or.inl rfl)]
  show en_nx rel _ K c x u (en_op (tb_mth (mt_cls y) n) _) = _
  rw [hf]
  show en_nx rel _ K c x u (en_if (st.length ≤ 4 ∧ 0 = 0) (some (.inr (.inr (y', [.ref a], pc + 3, lv, st)))) none) = _
  rw [en_nx_if2]
  exact propext ⟨fun w => ⟨w.1.1, w.2⟩, fun w => ⟨⟨w.1, rfl⟩, w.2⟩⟩
theorem st_init30 {n y' ci : Nat} {a : Nat} (h : decode (mt_code y) pc = .ok (.invokespecial n, 3)) (hf : tb_mth (mt_cls y) n = some (3, y', 0, ci)) : en_W rel y pc lv (.ref a :: st) c x u K = (st.length ≤ 4 ∧ en_cl rel y' [.ref a] c x u (fun v c' x' u' => en_W rel y (pc + 3) lv (v.toList ++ st) c' x' u' K)) := by
  rw [en_eq h (Or.inl rfl)]
  show en_nx rel _ K c x u (en_op (tb_mth (mt_cls y) n) _) = _
  rw [hf]
  show en_nx rel _ K c x u (en_if (st.length ≤ 4 ∧ 0 = 0) (some (.inr (.inr (y', [.ref a], pc + 3, lv, st)))) none) = _
  rw [en_nx_if2]
  exact propext ⟨fun w => ⟨w.1.1, w.2⟩, fun w => ⟨⟨w.1, rfl⟩, w.2⟩⟩
theorem st_virt1 {n y' ci : Nat} {a : Nat} {v0 : Value} (h : decode (mt_code y) pc = .ok (.invokevirtual n, 3)) (hf : tb_mth (mt_cls y) n = some (0, y', 1, ci)) : en_W rel y pc lv (v0 :: .ref a :: st) c x u K = (en_rdO (c a) ci (fun _ => a < x ∧ st.length ≤ 4 ∧ en_cl rel y' [.ref a, v0] c x u (fun v c' x' u' => en_W rel y (pc + 3) lv (v.toList ++ st) c' x' u' K))) := by
  rw [en_eq h (Or.inl rfl)]
  show en_nx rel _ K c x u (en_op (tb_mth (mt_cls y) n) _) = _
  rw [hf]
  show en_nx rel _ K c x u (en_if ((0 : Nat) = 0) _ none) = _
  rw [en_if_t rfl]
  show en_nx rel _ K c x u (en_if (a < x ∧ st.length ≤ 4 ∧ 1 = 1) (en_ob (c a) (fun ci' _ => en_if (ci' = ci) (some (.inr (.inr (y', [.ref a, v0], pc + 3, lv, st)))) none)) none) = _
  rw [en_nx_if2]
  generalize c a = e
  match e with
  | .inl q => exact propext ⟨fun w => w.2.elim, fun w => w.elim⟩
  | .inr (ci', fs) =>
    show (_ ∧ en_nx rel _ K c x u (en_if (ci' = ci) _ none)) = _
    rw [en_nx_if2]
    exact propext ⟨fun w => ⟨w.2.1, w.1.1, w.1.2.1, w.2.2⟩, fun w => ⟨⟨w.2.1, w.2.2.1, rfl⟩, w.1, w.2.2.2⟩⟩
theorem st_init21 {n y' ci : Nat} {a : Nat} {v0 : Value} (h : decode (mt_code y) pc = .ok (.invokespecial n, 3)) (hf : tb_mth (mt_cls y) n = some (2, y', 1, ci)) : en_W rel y pc lv (v0 :: .ref a :: st) c x u K = (st.length ≤ 4 ∧ en_cl rel y' [.ref a, v0] c x u (fun v c' x' u' => en_W rel y (pc + 3) lv (v.toList ++ st) c' x' u' K)) := by
  rw [en_eq h (Or.inl rfl)]
  show en_nx rel _ K c x u (en_op (tb_mth (mt_cls y) n) _) = _
  rw [hf]
  show en_nx rel _ K c x u (en_if (st.length ≤ 4 ∧ 1 = 1) (some (.inr (.inr (y', [.ref a, v0], pc + 3, lv, st)))) none) = _
  rw [en_nx_if2]
  exact propext ⟨fun w => ⟨w.1.1, w.2⟩, fun w => ⟨⟨w.1, rfl⟩, w.2⟩⟩
theorem st_init31 {n y' ci : Nat} {a : Nat} {v0 : Value} (h : decode (mt_code y) pc = .ok (.invokespecial n, 3)) (hf : tb_mth (mt_cls y) n = some (3, y', 1, ci)) : en_W rel y pc lv (v0 :: .ref a :: st) c x u K = (st.length ≤ 4 ∧ en_cl rel y' [.ref a, v0] c x u (fun v c' x' u' => en_W rel y (pc + 3) lv (v.toList ++ st) c' x' u' K)) := by
  rw [en_eq h (Or.inl rfl)]
  show en_nx rel _ K c x u (en_op (tb_mth (mt_cls y) n) _) = _
  rw [hf]
  show en_nx rel _ K c x u (en_if (st.length ≤ 4 ∧ 1 = 1) (some (.inr (.inr (y', [.ref a, v0], pc + 3, lv, st)))) none) = _
  rw [en_nx_if2]
  exact propext ⟨fun w => ⟨w.1.1, w.2⟩, fun w => ⟨⟨w.1, rfl⟩, w.2⟩⟩
theorem st_stat1 {n y' ci : Nat} {v0 : Value} (h : decode (mt_code y) pc = .ok (.invokestatic n, 3)) (hf : tb_mth (mt_cls y) n = some (1, y', 1, ci)) : en_W rel y pc lv (v0 :: st) c x u K = (st.length ≤ 4 ∧ en_cl rel y' [v0] c x u (fun v c' x' u' => en_W rel y (pc + 3) lv (v.toList ++ st) c' x' u' K)) := by
  rw [en_eq h (Or.inl rfl)]
  show en_nx rel _ K c x u (en_op (tb_mth (mt_cls y) n) _) = _
  rw [hf]
  show en_nx rel _ K c x u (en_if (st.length ≤ 4 ∧ 1 = 1) (some (.inr (.inr (y', [v0], pc + 3, lv, st)))) none) = _
  rw [en_nx_if2]
  exact propext ⟨fun w => ⟨w.1.1, w.2⟩, fun w => ⟨⟨w.1, rfl⟩, w.2⟩⟩
theorem st_virt2 {n y' ci : Nat} {a : Nat} {v0 v1 : Value} (h : decode (mt_code y) pc = .ok (.invokevirtual n, 3)) (hf : tb_mth (mt_cls y) n = some (0, y', 2, ci)) : en_W rel y pc lv (v1 :: v0 :: .ref a :: st) c x u K = (en_rdO (c a) ci (fun _ => a < x ∧ st.length ≤ 4 ∧ en_cl rel y' [.ref a, v0, v1] c x u (fun v c' x' u' => en_W rel y (pc + 3) lv (v.toList ++ st) c' x' u' K))) := by
  rw [en_eq h (Or.inl rfl)]
  show en_nx rel _ K c x u (en_op (tb_mth (mt_cls y) n) _) = _
  rw [hf]
  show en_nx rel _ K c x u (en_if ((0 : Nat) = 0) _ none) = _
  rw [en_if_t rfl]
  show en_nx rel _ K c x u (en_if (a < x ∧ st.length ≤ 4 ∧ 2 = 2) (en_ob (c a) (fun ci' _ => en_if (ci' = ci) (some (.inr (.inr (y', [.ref a, v0, v1], pc + 3, lv, st)))) none)) none) = _
  rw [en_nx_if2]
  generalize c a = e
  match e with
  | .inl q => exact propext ⟨fun w => w.2.elim, fun w => w.elim⟩
  | .inr (ci', fs) =>
    show (_ ∧ en_nx rel _ K c x u (en_if (ci' = ci) _ none)) = _
    rw [en_nx_if2]
    exact propext ⟨fun w => ⟨w.2.1, w.1.1, w.1.2.1, w.2.2⟩, fun w => ⟨⟨w.2.1, w.2.2.1, rfl⟩, w.1, w.2.2.2⟩⟩
theorem st_init22 {n y' ci : Nat} {a : Nat} {v0 v1 : Value} (h : decode (mt_code y) pc = .ok (.invokespecial n, 3)) (hf : tb_mth (mt_cls y) n = some (2, y', 2, ci)) : en_W rel y pc lv (v1 :: v0 :: .ref a :: st) c x u K = (st.length ≤ 4 ∧ en_cl rel y' [.ref a, v0, v1] c x u (fun v c' x' u' => en_W rel y (pc + 3) lv (v.toList ++ st) c' x' u' K)) := by
  rw [en_eq h (Or.inl rfl)]
  show en_nx rel _ K c x u (en_op (tb_mth (mt_cls y) n) _) = _
  rw [hf]
  show en_nx rel _ K c x u (en_if (st.length ≤ 4 ∧ 2 = 2) (some (.inr (.inr (y', [.ref a, v0, v1], pc + 3, lv, st)))) none) = _
  rw [en_nx_if2]
  exact propext ⟨fun w => ⟨w.1.1, w.2⟩, fun w => ⟨⟨w.1, rfl⟩, w.2⟩⟩
theorem st_init32 {n y' ci : Nat} {a : Nat} {v0 v1 : Value} (h : decode (mt_code y) pc = .ok (.invokespecial n, 3)) (hf : tb_mth (mt_cls y) n = some (3, y', 2, ci)) : en_W rel y pc lv (v1 :: v0 :: .ref a :: st) c x u K = (st.length ≤ 4 ∧ en_cl rel y' [.ref a, v0, v1] c x u (fun v c' x' u' => en_W rel y (pc + 3) lv (v.toList ++ st) c' x' u' K)) := by
  rw [en_eq h (Or.inl rfl)]
  show en_nx rel _ K c x u (en_op (tb_mth (mt_cls y) n) _) = _
  rw [hf]
  show en_nx rel _ K c x u (en_if (st.length ≤ 4 ∧ 2 = 2) (some (.inr (.inr (y', [.ref a, v0, v1], pc + 3, lv, st)))) none) = _
  rw [en_nx_if2]
  exact propext ⟨fun w => ⟨w.1.1, w.2⟩, fun w => ⟨⟨w.1, rfl⟩, w.2⟩⟩
theorem st_stat2 {n y' ci : Nat} {v0 v1 : Value} (h : decode (mt_code y) pc = .ok (.invokestatic n, 3)) (hf : tb_mth (mt_cls y) n = some (1, y', 2, ci)) : en_W rel y pc lv (v1 :: v0 :: st) c x u K = (st.length ≤ 4 ∧ en_cl rel y' [v0, v1] c x u (fun v c' x' u' => en_W rel y (pc + 3) lv (v.toList ++ st) c' x' u' K)) := by
  rw [en_eq h (Or.inl rfl)]
  show en_nx rel _ K c x u (en_op (tb_mth (mt_cls y) n) _) = _
  rw [hf]
  show en_nx rel _ K c x u (en_if (st.length ≤ 4 ∧ 2 = 2) (some (.inr (.inr (y', [v0, v1], pc + 3, lv, st)))) none) = _
  rw [en_nx_if2]
  exact propext ⟨fun w => ⟨w.1.1, w.2⟩, fun w => ⟨⟨w.1, rfl⟩, w.2⟩⟩
theorem st_virt3 {n y' ci : Nat} {a : Nat} {v0 v1 v2 : Value} (h : decode (mt_code y) pc = .ok (.invokevirtual n, 3)) (hf : tb_mth (mt_cls y) n = some (0, y', 3, ci)) : en_W rel y pc lv (v2 :: v1 :: v0 :: .ref a :: st) c x u K = (en_rdO (c a) ci (fun _ => a < x ∧ st.length ≤ 4 ∧ en_cl rel y' [.ref a, v0, v1, v2] c x u (fun v c' x' u' => en_W rel y (pc + 3) lv (v.toList ++ st) c' x' u' K))) := by
  rw [en_eq h (Or.inl rfl)]
  show en_nx rel _ K c x u (en_op (tb_mth (mt_cls y) n) _) = _
  rw [hf]
  show en_nx rel _ K c x u (en_if ((0 : Nat) = 0) _ none) = _
  rw [en_if_t rfl]
  show en_nx rel _ K c x u (en_if (a < x ∧ st.length ≤ 4 ∧ 3 = 3) (en_ob (c a) (fun ci' _ => en_if (ci' = ci) (some (.inr (.inr (y', [.ref a, v0, v1, v2], pc + 3, lv, st)))) none)) none) = _
  rw [en_nx_if2]
  generalize c a = e
  match e with
  | .inl q => exact propext ⟨fun w => w.2.elim, fun w => w.elim⟩
  | .inr (ci', fs) =>
    show (_ ∧ en_nx rel _ K c x u (en_if (ci' = ci) _ none)) = _
    rw [en_nx_if2]
    exact propext ⟨fun w => ⟨w.2.1, w.1.1, w.1.2.1, w.2.2⟩, fun w => ⟨⟨w.2.1, w.2.2.1, rfl⟩, w.1, w.2.2.2⟩⟩
theorem st_init23 {n y' ci : Nat} {a : Nat} {v0 v1 v2 : Value} (h : decode (mt_code y) pc = .ok (.invokespecial n, 3)) (hf : tb_mth (mt_cls y) n = some (2, y', 3, ci)) : en_W rel y pc lv (v2 :: v1 :: v0 :: .ref a :: st) c x u K = (st.length ≤ 4 ∧ en_cl rel y' [.ref a, v0, v1, v2] c x u (fun v c' x' u' => en_W rel y (pc + 3) lv (v.toList ++ st) c' x' u' K)) := by
  rw [en_eq h (Or.inl rfl)]
  show en_nx rel _ K c x u (en_op (tb_mth (mt_cls y) n) _) = _
  rw [hf]
  show en_nx rel _ K c x u (en_if (st.length ≤ 4 ∧ 3 = 3) (some (.inr (.inr (y', [.ref a, v0, v1, v2], pc + 3, lv, st)))) none) = _
  rw [en_nx_if2]
  exact propext ⟨fun w => ⟨w.1.1, w.2⟩, fun w => ⟨⟨w.1, rfl⟩, w.2⟩⟩
theorem st_init33 {n y' ci : Nat} {a : Nat} {v0 v1 v2 : Value} (h : decode (mt_code y) pc = .ok (.invokespecial n, 3)) (hf : tb_mth (mt_cls y) n = some (3, y', 3, ci)) : en_W rel y pc lv (v2 :: v1 :: v0 :: .ref a :: st) c x u K = (st.length ≤ 4 ∧ en_cl rel y' [.ref a, v0, v1, v2] c x u (fun v c' x' u' => en_W rel y (pc + 3) lv (v.toList ++ st) c' x' u' K)) := by
  rw [en_eq h (Or.inl rfl)]
  show en_nx rel _ K c x u (en_op (tb_mth (mt_cls y) n) _) = _
  rw [hf]
  show en_nx rel _ K c x u (en_if (st.length ≤ 4 ∧ 3 = 3) (some (.inr (.inr (y', [.ref a, v0, v1, v2], pc + 3, lv, st)))) none) = _
  rw [en_nx_if2]
  exact propext ⟨fun w => ⟨w.1.1, w.2⟩, fun w => ⟨⟨w.1, rfl⟩, w.2⟩⟩
theorem st_stat3 {n y' ci : Nat} {v0 v1 v2 : Value} (h : decode (mt_code y) pc = .ok (.invokestatic n, 3)) (hf : tb_mth (mt_cls y) n = some (1, y', 3, ci)) : en_W rel y pc lv (v2 :: v1 :: v0 :: st) c x u K = (st.length ≤ 4 ∧ en_cl rel y' [v0, v1, v2] c x u (fun v c' x' u' => en_W rel y (pc + 3) lv (v.toList ++ st) c' x' u' K)) := by
  rw [en_eq h (Or.inl rfl)]
  show en_nx rel _ K c x u (en_op (tb_mth (mt_cls y) n) _) = _
  rw [hf]
  show en_nx rel _ K c x u (en_if (st.length ≤ 4 ∧ 3 = 3) (some (.inr (.inr (y', [v0, v1, v2], pc + 3, lv, st)))) none) = _
  rw [en_nx_if2]
  exact propext ⟨fun w => ⟨w.1.1, w.2⟩, fun w => ⟨⟨w.1, rfl⟩, w.2⟩⟩
theorem st_virt4 {n y' ci : Nat} {a : Nat} {v0 v1 v2 v3 : Value} (h : decode (mt_code y) pc = .ok (.invokevirtual n, 3)) (hf : tb_mth (mt_cls y) n = some (0, y', 4, ci)) : en_W rel y pc lv (v3 :: v2 :: v1 :: v0 :: .ref a :: st) c x u K = (en_rdO (c a) ci (fun _ => a < x ∧ st.length ≤ 4 ∧ en_cl rel y' [.ref a, v0, v1, v2, v3] c x u (fun v c' x' u' => en_W rel y (pc + 3) lv (v.toList ++ st) c' x' u' K))) := by
  rw [en_eq h (Or.inl rfl)]
  show en_nx rel _ K c x u (en_op (tb_mth (mt_cls y) n) _) = _
  rw [hf]
  show en_nx rel _ K c x u (en_if ((0 : Nat) = 0) _ none) = _
  rw [en_if_t rfl]
  show en_nx rel _ K c x u (en_if (a < x ∧ st.length ≤ 4 ∧ 4 = 4) (en_ob (c a) (fun ci' _ => en_if (ci' = ci) (some (.inr (.inr (y', [.ref a, v0, v1, v2, v3], pc + 3, lv, st)))) none)) none) = _
  rw [en_nx_if2]
  generalize c a = e
  match e with
  | .inl q => exact propext ⟨fun w => w.2.elim, fun w => w.elim⟩
  | .inr (ci', fs) =>
    show (_ ∧ en_nx rel _ K c x u (en_if (ci' = ci) _ none)) = _
    rw [en_nx_if2]
    exact propext ⟨fun w => ⟨w.2.1, w.1.1, w.1.2.1, w.2.2⟩, fun w => ⟨⟨w.2.1, w.2.2.1, rfl⟩, w.1, w.2.2.2⟩⟩
theorem st_stat4 {n y' ci : Nat} {v0 v1 v2 v3 : Value} (h : decode (mt_code y) pc = .ok (.invokestatic n, 3)) (hf : tb_mth (mt_cls y) n = some (1, y', 4, ci)) : en_W rel y pc lv (v3 :: v2 :: v1 :: v0 :: st) c x u K = (st.length ≤ 4 ∧ en_cl rel y' [v0, v1, v2, v3] c x u (fun v c' x' u' => en_W rel y (pc + 3) lv (v.toList ++ st) c' x' u' K)) := by
  rw [en_eq h (Or.inl rfl)]
  show en_nx rel _ K c x u (en_op (tb_mth (mt_cls y) n) _) = _
  rw [hf]
  show en_nx rel _ K c x u (en_if (st.length ≤ 4 ∧ 4 = 4) (some (.inr (.inr (y', [v0, v1, v2, v3], pc + 3, lv, st)))) none) = _
  rw [en_nx_if2]
  exact propext ⟨fun w => ⟨w.1.1, w.2⟩, fun w => ⟨⟨w.1, rfl⟩, w.2⟩⟩
theorem st_virt5 {n y' ci : Nat} {a : Nat} {v0 v1 v2 v3 v4 : Value} (h : decode (mt_code y) pc = .ok (.invokevirtual n, 3)) (hf : tb_mth (mt_cls y) n = some (0, y', 5, ci)) : en_W rel y pc lv (v4 :: v3 :: v2 :: v1 :: v0 :: .ref a :: st) c x u K = (en_rdO (c a) ci (fun _ => a < x ∧ st.length ≤ 4 ∧ en_cl rel y' [.ref a, v0, v1, v2, v3, v4] c x u (fun v c' x' u' => en_W rel y (pc + 3) lv (v.toList ++ st) c' x' u' K))) := by
  rw [en_eq h (Or.inl rfl)]
  show en_nx rel _ K c x u (en_op (tb_mth (mt_cls y) n) _) = _
  rw [hf]
  show en_nx rel _ K c x u (en_if ((0 : Nat) = 0) _ none) = _
  rw [en_if_t rfl]
  show en_nx rel _ K c x u (en_if (a < x ∧ st.length ≤ 4 ∧ 5 = 5) (en_ob (c a) (fun ci' _ => en_if (ci' = ci) (some (.inr (.inr (y', [.ref a, v0, v1, v2, v3, v4], pc + 3, lv, st)))) none)) none) = _
  rw [en_nx_if2]
  generalize c a = e
  match e with
  | .inl q => exact propext ⟨fun w => w.2.elim, fun w => w.elim⟩
  | .inr (ci', fs) =>
    show (_ ∧ en_nx rel _ K c x u (en_if (ci' = ci) _ none)) = _
    rw [en_nx_if2]
    exact propext ⟨fun w => ⟨w.2.1, w.1.1, w.1.2.1, w.2.2⟩, fun w => ⟨⟨w.2.1, w.2.2.1, rfl⟩, w.1, w.2.2.2⟩⟩
theorem st_stat5 {n y' ci : Nat} {v0 v1 v2 v3 v4 : Value} (h : decode (mt_code y) pc = .ok (.invokestatic n, 3)) (hf : tb_mth (mt_cls y) n = some (1, y', 5, ci)) : en_W rel y pc lv (v4 :: v3 :: v2 :: v1 :: v0 :: st) c x u K = (st.length ≤ 4 ∧ en_cl rel y' [v0, v1, v2, v3, v4] c x u (fun v c' x' u' => en_W rel y (pc + 3) lv (v.toList ++ st) c' x' u' K)) := by
  rw [en_eq h (Or.inl rfl)]
  show en_nx rel _ K c x u (en_op (tb_mth (mt_cls y) n) _) = _
  rw [hf]
  show en_nx rel _ K c x u (en_if (st.length ≤ 4 ∧ 5 = 5) (some (.inr (.inr (y', [v0, v1, v2, v3, v4], pc + 3, lv, st)))) none) = _
  rw [en_nx_if2]
  exact propext ⟨fun w => ⟨w.1.1, w.2⟩, fun w => ⟨⟨w.1, rfl⟩, w.2⟩⟩
theorem st_virt6 {n y' ci : Nat} {a : Nat} {v0 v1 v2 v3 v4 v5 : Value} (h : decode (mt_code y) pc = .ok (.invokevirtual n, 3)) (hf : tb_mth (mt_cls y) n = some (0, y', 6, ci)) : en_W rel y pc lv (v5 :: v4 :: v3 :: v2 :: v1 :: v0 :: .ref a :: st) c x u K = (en_rdO (c a) ci (fun _ => a < x ∧ st.length ≤ 4 ∧ en_cl rel y' [.ref a, v0, v1, v2, v3, v4, v5] c x u (fun v c' x' u' => en_W rel y (pc + 3) lv (v.toList ++ st) c' x' u' K))) := by
  rw [en_eq h (Or.inl rfl)]
  show en_nx rel _ K c x u (en_op (tb_mth (mt_cls y) n) _) = _
  rw [hf]
  show en_nx rel _ K c x u (en_if ((0 : Nat) = 0) _ none) = _
  rw [en_if_t rfl]
  show en_nx rel _ K c x u (en_if (a < x ∧ st.length ≤ 4 ∧ 6 = 6) (en_ob (c a) (fun ci' _ => en_if (ci' = ci) (some (.inr (.inr (y', [.ref a, v0, v1, v2, v3, v4, v5], pc + 3, lv, st)))) none)) none) = _
  rw [en_nx_if2]
  generalize c a = e
  match e with
  | .inl q => exact propext ⟨fun w => w.2.elim, fun w => w.elim⟩
  | .inr (ci', fs) =>
    show (_ ∧ en_nx rel _ K c x u (en_if (ci' = ci) _ none)) = _
    rw [en_nx_if2]
    exact propext ⟨fun w => ⟨w.2.1, w.1.1, w.1.2.1, w.2.2⟩, fun w => ⟨⟨w.2.1, w.2.2.1, rfl⟩, w.1, w.2.2.2⟩⟩
theorem st_stat6 {n y' ci : Nat} {v0 v1 v2 v3 v4 v5 : Value} (h : decode (mt_code y) pc = .ok (.invokestatic n, 3)) (hf : tb_mth (mt_cls y) n = some (1, y', 6, ci)) : en_W rel y pc lv (v5 :: v4 :: v3 :: v2 :: v1 :: v0 :: st) c x u K = (st.length ≤ 4 ∧ en_cl rel y' [v0, v1, v2, v3, v4, v5] c x u (fun v c' x' u' => en_W rel y (pc + 3) lv (v.toList ++ st) c' x' u' K)) := by
  rw [en_eq h (Or.inl rfl)]
  show en_nx rel _ K c x u (en_op (tb_mth (mt_cls y) n) _) = _
  rw [hf]
  show en_nx rel _ K c x u (en_if (st.length ≤ 4 ∧ 6 = 6) (some (.inr (.inr (y', [v0, v1, v2, v3, v4, v5], pc + 3, lv, st)))) none) = _
  rw [en_nx_if2]
  exact propext ⟨fun w => ⟨w.1.1, w.2⟩, fun w => ⟨⟨w.1, rfl⟩, w.2⟩⟩
theorem st_mmax {n y' m' ci : Nat} {a b : Int32} (h : decode (mt_code y) pc = .ok (.invokestatic n, 3)) (hf : tb_mth (mt_cls y) n = some (4, y', m', ci)) : en_W rel y pc lv (.int b :: .int a :: st) c x u K = (st.length ≤ 4 ∧ en_W rel y (pc + 3) lv (.int (if a < b then b else a) :: st) c x u K) := by
  rw [en_eq h (Or.inl rfl)]
  show en_nx rel _ K c x u (en_op (tb_mth (mt_cls y) n) _) = _
  rw [hf]
  exact (en_nx_if).trans (propext ⟨fun w => ⟨w.1, w.2.2⟩, fun w => ⟨w.1, en_ok_rf, w.2⟩⟩)
theorem st_mmin {n y' m' ci : Nat} {a b : Int32} (h : decode (mt_code y) pc = .ok (.invokestatic n, 3)) (hf : tb_mth (mt_cls y) n = some (5, y', m', ci)) : en_W rel y pc lv (.int b :: .int a :: st) c x u K = (st.length ≤ 4 ∧ en_W rel y (pc + 3) lv (.int (if b < a then b else a) :: st) c x u K) := by
  rw [en_eq h (Or.inl rfl)]
  show en_nx rel _ K c x u (en_op (tb_mth (mt_cls y) n) _) = _
  rw [hf]
  exact (en_nx_if).trans (propext ⟨fun w => ⟨w.1, w.2.2⟩, fun w => ⟨w.1, en_ok_rf, w.2⟩⟩)
theorem st_copy {n y' m' ci : Nat} {a0 a1 : Nat} {sp dp k : Int32} (h : decode (mt_code y) pc = .ok (.invokestatic n, 3)) (hf : tb_mth (mt_cls y) n = some (6, y', m', ci)) : en_W rel y pc lv (.int k :: .int dp :: .ref a1 :: .int sp :: .ref a0 :: st) c x u K = en_rdI (c a0) 0 (fun n0 f => en_rdI (c a1) 0 (fun n1 g => a0 < x ∧ a1 < x ∧ st.length ≤ 4 ∧ ¬ sp < 0 ∧ ¬ dp < 0 ∧ ¬ k < 0 ∧ sp.toNatClampNeg + k.toNatClampNeg ≤ n0 ∧ dp.toNatClampNeg + k.toNatClampNeg ≤ n1 ∧ en_W rel y (pc + 3) lv st (en_up c a1 (.inl (0, n1, .inl (va_cpy f g sp.toNatClampNeg dp.toNatClampNeg k.toNatClampNeg)))) x u K)) := by
  rw [en_eq h (Or.inl rfl)]
  show en_nx rel _ K c x u (en_op (tb_mth (mt_cls y) n) _) = _
  rw [hf]
  show en_nx rel _ K c x u (en_arI (c a0) (fun t0 n0 f => en_arI (c a1) (fun t1 n1 g =>
      en_if (a0 < x ∧ a1 < x ∧ t0 = 0 ∧ t1 = 0 ∧ st.length ≤ 4 ∧ ¬ sp < 0 ∧ ¬ dp < 0 ∧ ¬ k < 0 ∧ sp.toNatClampNeg + k.toNatClampNeg ≤ n0 ∧ dp.toNatClampNeg + k.toNatClampNeg ≤ n1)
        (en_fr (pc + 3) lv st (en_up c a1 (.inl (0, n1, .inl (va_cpy f g sp.toNatClampNeg dp.toNatClampNeg k.toNatClampNeg)))) x u) none))) = _
  generalize c a0 = e0
  match e0 with
  | .inl (t, n, .inr f) => rfl
  | .inr q => rfl
  | .inl (t0, n0, .inl f) =>
    show en_nx rel _ K c x u (en_arI (c a1) _) = (t0 = 0 ∧ en_rdI (c a1) 0 _)
    generalize c a1 = e1
    match e1 with
    | .inl (t, n, .inr f) => exact propext ⟨fun w => w.elim, fun w => w.2.elim⟩
    | .inr q => exact propext ⟨fun w => w.elim, fun w => w.2.elim⟩
    | .inl (t1, n1, .inl g) =>
      refine (en_nx_if).trans (propext ⟨fun w => ?_, fun w => ?_⟩)
      · obtain ⟨⟨h1, h2, h3, h4, h5, h6, h7, h8, h9, h10⟩, -, hw⟩ := w
        exact ⟨h3, h4, h1, h2, h5, h6, h7, h8, h9, h10, hw⟩
      · obtain ⟨h3, h4, h1, h2, h5, h6, h7, h8, h9, h10, hw⟩ := w
        exact ⟨⟨h1, h2, h3, h4, h5, h6, h7, h8, h9, h10⟩, en_ok_up h2, hw⟩
theorem st_obj {n y' m' ci : Nat} {a : Nat} (h : decode (mt_code y) pc = .ok (.invokespecial n, 3)) (hf : tb_mth (mt_cls y) n = some (7, y', m', ci)) : en_W rel y pc lv (.ref a :: st) c x u K = (st.length ≤ 4 ∧ en_W rel y (pc + 3) lv st c x u K) := by
  rw [en_eq h (Or.inl rfl)]
  show en_nx rel _ K c x u (en_op (tb_mth (mt_cls y) n) _) = _
  rw [hf]
  exact (en_nx_if).trans (propext ⟨fun w => ⟨w.1, w.2.2⟩, fun w => ⟨w.1, en_ok_rf, w.2⟩⟩)
theorem st_iret {a : Int32} (h : decode (mt_code y) pc = .ok (.ireturn, 1)) (hr : mt_rk y = 1) : en_W rel y pc lv ([.int a]) c x u K = K (some (.int a)) c x u := by
  exact en_rt h (Or.inl rfl) (en_if_t (Or.inl hr))
theorem st_zret {a : Int32} (h : decode (mt_code y) pc = .ok (.ireturn, 1)) (hr : mt_rk y = 2) : en_W rel y pc lv ([.int a]) c x u K = ((a = 0 ∨ a = 1) ∧ K (some (.int a)) c x u) := by
  rw [en_eq h (Or.inl rfl)]
  show en_nx rel _ K c x u (en_if (en_rz (mt_rk y) a) _ none) = _
  rw [en_nx_if2]
  refine propext ⟨fun w => ⟨?_, w.2.2⟩, fun w => ⟨Or.inr ⟨hr, w.1⟩, en_ok_rf, w.2⟩⟩
  rcases w.1 with q | q
  · rw [hr] at q; cases q
  · exact q.2
theorem st_aret {a : Nat} (h : decode (mt_code y) pc = .ok (.areturn, 1)) (hr : mt_rk y = 3) : en_W rel y pc lv ([.ref a]) c x u K = K (some (.ref a)) c x u := by
  exact en_rt h (Or.inl rfl) (en_if_t hr)
theorem st_vret (h : decode (mt_code y) pc = .ok (.return_, 1)) (hr : mt_rk y = 0) : en_W rel y pc lv ([]) c x u K = K none c x u := by
  exact en_rt h (Or.inl rfl) (en_if_t hr)
theorem st_tabO {d lo hi : Int} {offs : Array Int} {len tgt : Nat} {a : Int32} (h : decode (mt_code y) pc = .ok (.tableswitch d lo hi offs, len)) (ht : (pc : Int) + d = (tgt : Int)) (ha : a.toInt < lo ∨ hi < a.toInt) : en_W rel y pc lv (.int a :: st) c x u K = en_W rel y tgt lv st c x u K := by
  exact en_go h (Or.inr rfl) (by show en_if (a.toInt < lo ∨ hi < a.toInt) _ _ = _; rw [en_if_t ha]; exact en_tg_eq ht) en_ok_rf
theorem st_tabI {d lo hi off : Int} {offs : Array Int} {len tgt : Nat} {a : Int32} (h : decode (mt_code y) pc = .ok (.tableswitch d lo hi offs, len)) (ha : ¬ (a.toInt < lo ∨ hi < a.toInt)) (ho : offs[(a.toInt - lo).toNat]? = some off) (ht : (pc : Int) + off = (tgt : Int)) : en_W rel y pc lv (.int a :: st) c x u K = en_W rel y tgt lv st c x u K := by
  exact en_go h (Or.inr rfl) (by show en_if (a.toInt < lo ∨ hi < a.toInt) _ _ = _; rw [en_if_f ha, ho]; exact en_tg_eq ht) en_ok_rf
theorem st_look {d off : Int} {ps : Array (Int × Int)} {len tgt : Nat} {a : Int32} (h : decode (mt_code y) pc = .ok (.lookupswitch d ps, len)) (hp : (ps.toList.zip (ps.toList.drop 1)).all (fun (a, next) => a.1 < next.1) = true) (ho : Op.lookupswitch.offset ps.toList d a.toInt = off) (ht : (pc : Int) + off = (tgt : Int)) : en_W rel y pc lv (.int a :: st) c x u K = en_W rel y tgt lv st c x u K := by
  exact en_go h (Or.inr rfl) (by show en_if _ _ none = _; rw [en_if_t hp, ho]; exact en_tg_eq ht) en_ok_rf
end EST
end
section
/-! THE ENGINE, machine side: what the abstract machine does, the machine does. -/
def en_cv (ρ : Nat → Nat) (v : Value) : Value := match v with
  | .ref a => .ref (ρ a)
  | w => w
theorem en_cv_cat (ρ : Nat → Nat) (v : Value) : (en_cv ρ v).category = v.category := by cases v <;> rfl
def en_cE (tc : Nat → ClassId) (ρ : Nat → Nat) (e : en_C) : va_E := match e with
  | .inl q => .inl (tc q.1, q.2)
  | .inr q => .inr (q.1, q.2.map (en_cv ρ))
def en_ws (tc : Nat → ClassId) (ρ : Nat → Nat) (c : en_H) (x : Nat) : va_W := (List.range x).map (fun i => (ρ i, en_cE tc ρ (c i)))
theorem en_ws_get {tc : Nat → ClassId} {ρ : Nat → Nat} {c : en_H} {x i : Nat} (h : i < x) : (en_ws tc ρ c x)[i]? = some (ρ i, en_cE tc ρ (c i)) := by
  unfold en_ws
  rw [List.getElem?_map, List.getElem?_range h]
  rfl
theorem en_ws_inv {tc : Nat → ClassId} {ρ : Nat → Nat} {c : en_H} {x i : Nat} {q : Nat × va_E} (h : (en_ws tc ρ c x)[i]? = some q) : i < x ∧ q = (ρ i, en_cE tc ρ (c i)) := by
  have hl := (List.getElem?_eq_some_iff.mp h).1
  have hi : i < x := by simpa [en_ws] using hl
  rw [en_ws_get hi] at h
  exact ⟨hi, (Option.some.inj h).symm⟩
theorem en_ws_at {tc : Nat → ClassId} {ρ : Nat → Nat} {c : en_H} {x i : Nat} {e : en_C} (h : i < x) (he : c i = e) : (en_ws tc ρ c x)[i]? = some (ρ i, en_cE tc ρ e) := by
  rw [en_ws_get h, he]
theorem en_ws_set {tc : Nat → ClassId} {ρ : Nat → Nat} {c : en_H} {x i : Nat} {e : en_C} (h : i < x) : (en_ws tc ρ c x).set i (ρ i, en_cE tc ρ e) = en_ws tc ρ (en_up c i e) x := by
  apply List.ext_getElem?
  intro j
  have hlen : (en_ws tc ρ c x).length = x := by simp [en_ws]
  rw [List.getElem?_set, hlen]
  by_cases hij : i = j
  · subst hij
    rw [if_pos rfl, if_pos h, en_ws_get h, en_up_s]
  · rw [if_neg hij]
    by_cases hj : j < x
    · rw [en_ws_get hj, en_ws_get hj, en_up_n (fun q => hij q.symm)]
    · rw [List.getElem?_eq_none (by rw [hlen]; omega), List.getElem?_eq_none (by simp [en_ws]; omega)]
theorem en_ws_push {tc : Nat → ClassId} {ρ : Nat → Nat} {c : en_H} {x : Nat} {e : en_C} : en_ws tc ρ c x ++ [(ρ x, en_cE tc ρ e)] = en_ws tc ρ (en_up c x e) (x + 1) := by
  unfold en_ws
  rw [List.range_succ, List.map_append]
  congr 1
  · apply List.map_congr_left
    intro i hi
    have := List.mem_range.mp hi
    rw [en_up_n (by omega)]
  · simp [en_up_s]
theorem en_ws_D {tc : Nat → ClassId} {ρ : Nat → Nat} {c : en_H} {x b0 : Nat} (hρ : ∀ i, i < en_S → ρ i = b0 + i) (hx : x ≤ en_S) : va_D (fun q => b0 ≤ q) (en_ws tc ρ c x) := by
  refine ⟨fun i j p q hp hq hpq => ?_, fun k q hq => ?_⟩
  · obtain ⟨hi, rfl⟩ := en_ws_inv hp
    obtain ⟨hj, rfl⟩ := en_ws_inv hq
    have h2 : ρ i = ρ j := hpq
    rw [hρ i (by omega), hρ j (by omega)] at h2
    omega
  · obtain ⟨hi, rfl⟩ := en_ws_inv hq
    show b0 ≤ ρ k
    rw [hρ k (by omega)]
    omega
def en_tys (tc : Nat → ClassId) : List (ClassId × FieldType) := [(tc 0, .int), (tc 1, .long), (tc 2, .boolean)]
/-- the locals -/
def en_lr (ρ : Nat → Nat) (ls : Array Slot) (lv : en_L) : Prop := ls.size = lv.length ∧ lv_wf ls ∧ ∀ (i : Nat) (v : Value), lv[i]? = some (some v) → v.category = 1 ∧ ls[i]? = some (.val (en_cv ρ v))
def en_pp (ρ : Nat → Nat) (lv : en_L) (i : Nat) : Option (Nat × Value) := match lv[i]? with
  | some (some v) => some (i, en_cv ρ v)
  | _ => none
def en_ps (ρ : Nat → Nat) (lv : en_L) : List (Nat × Value) := (List.range lv.length).filterMap (en_pp ρ lv)
theorem en_lr_has {ρ : Nat → Nat} {ls : Array Slot} {lv : en_L} (h : en_lr ρ ls lv) : lv_has ls lv.length (en_ps ρ lv) := by
  refine ⟨h.1, h.2.1, fun q hq => ?_⟩
  obtain ⟨i, -, hi⟩ := List.mem_filterMap.mp hq
  unfold en_pp at hi
  split at hi
  · rename_i v hv
    cases hi
    exact (h.2.2 i v hv).2
  · cases hi
theorem en_ps_mem {ρ : Nat → Nat} {lv : en_L} {i : Nat} {v : Value} (h : lv[i]? = some (some v)) : (i, en_cv ρ v) ∈ en_ps ρ lv := by
  refine List.mem_filterMap.mpr ⟨i, List.mem_range.mpr (List.getElem?_eq_some_iff.mp h).1, ?_⟩
  unfold en_pp
  rw [h]
theorem en_lr_set {ρ : Nat → Nat} {ls ls' : Array Slot} {lv : en_L} {i : Nat} {v : Value} (h : en_lr ρ ls lv) (hi : i < lv.length) (hv : v.category = 1) (h' : lv_has ls' lv.length ((i, en_cv ρ v) :: (en_ps ρ lv).filter (fun q => !(q.1 == i) && !(q.1 + 1 == i && q.2.category == 2)))) : en_lr ρ ls' (lv.set i (some v)) := by
  refine ⟨by rw [List.length_set]; exact h'.1, h'.2.1, fun j w hw => ?_⟩
  rw [List.getElem?_set] at hw
  by_cases hij : i = j
  · subst hij
    rw [if_pos rfl, if_pos hi] at hw
    cases hw
    exact ⟨hv, h'.2.2 (i, en_cv ρ v) List.mem_cons_self⟩
  · rw [if_neg hij] at hw
    have hc := (h.2.2 j w hw).1
    refine ⟨hc, h'.2.2 (j, en_cv ρ w) (List.mem_cons_of_mem _ (List.mem_filter.mpr ⟨en_ps_mem hw, ?_⟩))⟩
    have h1 : (j == i) = false := by simpa using fun q => hij q.symm
    have h2 : ((en_cv ρ w).category == 2) = false := by rw [en_cv_cat, hc]; rfl
    simp [h1, h2]
theorem en_args_mem {vs : List Value} : ∀ (k : Nat), (∀ w ∈ vs, w.category = 1) → ∀ (i : Nat) (v : Value), vs[i]? = some v → (k + i, v) ∈ lv_args k vs := by
  induction vs with
  | nil => intro k _ i v h; simp at h
  | cons a vs ih =>
    intro k hc i v h
    have ha : a.category = 1 := hc a List.mem_cons_self
    have e : lv_args k (a :: vs) = (k, a) :: lv_args (k + 1) vs := by
      show (k, a) :: lv_args (if a.category = 2 then k + 2 else k + 1) vs = _
      rw [ha]; rfl
    rw [e]
    cases i with
    | zero =>
      simp at h
      subst h
      exact List.mem_cons_self
    | succ i =>
      have := ih (k + 1) (fun w hw => hc w (List.mem_cons_of_mem _ hw)) i v (by simpa using h)
      rw [show k + (i + 1) = k + 1 + i by omega]
      exact List.mem_cons_of_mem _ this
theorem en_sl_len {vs : List Value} (h : ∀ w ∈ vs, w.category = 1) : (lg_sl vs).length = vs.length := by
  induction vs with
  | nil => rfl
  | cons a vs ih =>
    have ha : a.category = 1 := h a List.mem_cons_self
    have e : lg_sl (a :: vs) = .val a :: lg_sl vs := by
      show (if a.category = 2 then [Slot.val a, .second] else [.val a]) ++ lg_sl vs = _
      rw [ha]; rfl
    rw [e, List.length_cons, List.length_cons, ih (fun w hw => h w (List.mem_cons_of_mem _ hw))]
theorem en_entry {ρ : Nat → Nat} {y : Nat} {As : List Value} (h1 : As.length ≤ mt_nl y) (h2 : ∀ a ∈ As, a.category = 1) : en_lr ρ ((lg_sl (As.map (en_cv ρ)) ++ List.replicate (mt_nl y - (lg_sl (As.map (en_cv ρ))).length) Slot.unset).toArray) (en_lv0 y As) := by
  have hc : ∀ w ∈ As.map (en_cv ρ), w.category = 1 := by
    intro w hw
    obtain ⟨a, ha, rfl⟩ := List.mem_map.mp hw
    rw [en_cv_cat]
    exact h2 a ha
  have hlen := en_sl_len hc
  have hl := lv_entry (As.map (en_cv ρ)) (n := mt_nl y) (by rw [hlen, List.length_map]; exact h1)
  have hz : (en_lv0 y As).length = mt_nl y := by simp [en_lv0]; omega
  refine ⟨by rw [hz]; exact hl.1, hl.2.1, fun i v hv => ?_⟩
  have hi : As[i]? = some v := by
    unfold en_lv0 at hv
    by_cases hh : i < As.length
    · rw [List.getElem?_append_left (by simpa using hh), List.getElem?_map] at hv
      cases ha : As[i]? with
      | none => rw [ha] at hv; cases hv
      | some w => rw [ha] at hv; cases hv; rfl
    · rw [List.getElem?_append_right (by simpa using Nat.not_lt.mp hh)] at hv
      rw [List.getElem?_replicate] at hv
      split at hv <;> cases hv
  refine ⟨h2 v (List.mem_of_getElem? hi), ?_⟩
  have hm := en_args_mem (vs := As.map (en_cv ρ)) 0 hc i (en_cv ρ v) (by rw [List.getElem?_map, hi]; rfl)
  rw [Nat.zero_add] at hm
  exact hl.2.2 _ hm
def en_nw (q : String × Nat × MethodName × String) : Cond := .methodLinkNest q.1 q.2.1 q.2.2.1 q.2.2.2
/-- a method: its world at the start, its world at the end -/
def en_Pc (D : va_G) (tc : Nat → ClassId) (ρ : Nat → Nat) (b0 : Nat) (As : List Value) (c : en_H) (x : Nat) : Array Value → State → Prop := va_Pc (As.map (en_cv ρ)) (fun U => U.heap.size = b0 + x ∧ va_P D vwCl (en_ws tc ρ c x) U.heap ∧ va_K D vwCl (en_tys tc) U ∧ ∀ q ∈ en_nl, va_Nw (en_nw q) U)
def en_Qc (D : va_G) (tc : Nat → ClassId) (ρ : Nat → Nat) (b0 : Nat) (v : Option Value) (c' : en_H) (x' : Nat) : Array Value → State → Outcome → State → Prop := fun _ st oc t => oc = .returned (v.map (en_cv ρ)) ∧ t.heap.size = b0 + x' ∧ va_P D vwCl (en_ws tc ρ c' x') t.heap ∧ va_F (fun q => b0 ≤ q) st t
def en_mw (y : Nat) : List Cond := Cond.code (mt_name y) (mt_code y) (mt_nl y) (mt_ret y) :: en_T0
def en_room (d mc ms : Nat) : Room := { frames := d, cells := mc, slots := ms, locals := 40 * d }
def en_M (l : Launch) (D : va_G) (tc : Nat → ClassId) (ρ : Nat → Nat) (b0 d y : Nat) (As : List Value) (c : en_H) (x u : Nat) (v : Option Value) (c' : en_H) (x' u' : Nat) : Prop :=
  Met l (mt_name y) (en_mw y) (en_room d (x' - x) (u' - u)) (en_Pc D tc ρ b0 As c x) (en_Qc D tc ρ b0 v c' x') (x' - x) (u' - u) (fun q => b0 ≤ q)
theorem en_blind {D : va_G} {tc : Nat → ClassId} {ρ : Nat → Nat} {b0 : Nat} {As : List Value} {c : en_H} {x : Nat} : FrameBlind (en_Pc D tc ρ b0 As c x) := fun a U g mk q => ⟨q.1, q.2.1, q.2.2.1, va_K.moved (u := U) (U := U.calling g mk a) (Vm.Alike.refl U.vm) q.2.2.2.1, fun w hw => va_Nw.same (u := U) (U := U.calling g mk a) rfl rfl (q.2.2.2.2 w hw)⟩
/-- what holds all along a method's run -/
def en_X (p : Program) (R : Room) (s : State) (m : MethodId) (args : Array Value) (meth : Method) (cd : Code) (D : va_G) (tc : Nat → ClassId) (ρ : Nat → Nat) (b0 x0 u0 x1 u1 y : Nat) : Prop :=
  (p.tables.exec = Jvm.exec ∧ cd.code = mt_code y ∧ cd.maxLocals = mt_nl y ∧ s.vm.findClass (mt_cn (mt_cls y)) = some m.cls ∧ (∀ w ∈ en_T0, w.before args s = true)) ∧
  (va_K D vwCl (en_tys tc) s ∧ (∀ q ∈ en_nl, va_Nw (en_nw q) s)) ∧ ((∀ i, i < en_S → ρ i = b0 + i) ∧ b0 ≤ s.heap.size ∧ x1 < en_S ∧ x1 - x0 ≤ R.cells ∧ u1 - u0 ≤ R.slots) ∧ (mt_init y = true → meth.name = "<init>")
def en_A (p : Program) (l : Launch) (e : Env) (R : Room) (s : State) (m : MethodId) (args : Array Value) (below : List Frame) (meth : Method) (cd : Code) (Q : State → Prop) (D : va_G) (tc : Nat → ClassId) (ρ : Nat → Nat) (b0 x0 u0 x1 u1 y : Nat) (sc : Nat × (Nat → Int32)) (f : en_F) : Prop :=
  ∀ (k j : Nat) (H : Heap) (locs : List Loc) (ls : Array Slot), f.2.2.2.2.1 = x0 + k → f.2.2.2.2.2 = u0 + j → f.2.2.2.2.1 ≤ x1 → f.2.2.2.2.2 ≤ u1 → H.size = b0 + f.2.2.2.2.1 → va_P D vwCl (en_ws tc ρ f.2.2.2.1 f.2.2.2.2.1) H → va_S (fun q => b0 ≤ q) s.heap H locs → en_lr ρ ls f.2.1 → f.2.1.length = mt_nl y → (y = mt_law → f.2.2.2.1 en_S = .inl (0, sc.1, .inl sc.2)) →
    W p l e R s m args below meth cd H locs k j Q (F0 m f.1 ls (f.2.2.1.map (en_cv ρ)))
section ESO
variable {p : Program} {l : Launch} {e : Env} {R : Room} {s : State} {m : MethodId} {args : Array Value} {below : List Frame} {meth : Method} {cd : Code} {Q : State → Prop} {D : va_G} {tc : Nat → ClassId} {ρ : Nat → Nat} {b0 x0 u0 x1 u1 y : Nat} {sc : Nat × (Nat → Int32)}
variable {pc : Nat} {lv : en_L} {st : List Value} {c : en_H} {x u : Nat}
theorem so_iconst (X : en_X p R s m args meth cd D tc ρ b0 x0 u0 x1 u1 y) {n : Int} (hd : decode (mt_code y) pc = .ok (.iconst n, 1)) (K : en_A p l e R s m args below meth cd Q D tc ρ b0 x0 u0 x1 u1 y sc (pc + 1, lv, .int (Int32.ofInt n) :: st, c, x, u)) : en_A p l e R s m args below meth cd Q D tc ρ b0 x0 u0 x1 u1 y sc (pc, lv, st, c, x, u) := by
  intro k j H locs ls h1 h2 h3 h4 h5 h6 h7 h8 h9 h10
  show W p l e R s m args below meth cd H locs k j Q (F0 m pc ls (st.map (en_cv ρ)))
  exact lv_iconst X.1.1 X.1.2.1 hd rfl (K k j H locs ls h1 h2 h3 h4 h5 h6 h7 h8 h9 h10)
theorem so_bipush (X : en_X p R s m args meth cd D tc ρ b0 x0 u0 x1 u1 y) {n : Int} (hd : decode (mt_code y) pc = .ok (.bipush n, 2)) (K : en_A p l e R s m args below meth cd Q D tc ρ b0 x0 u0 x1 u1 y sc (pc + 2, lv, .int (Int8.ofInt n).toInt32 :: st, c, x, u)) : en_A p l e R s m args below meth cd Q D tc ρ b0 x0 u0 x1 u1 y sc (pc, lv, st, c, x, u) := by
  intro k j H locs ls h1 h2 h3 h4 h5 h6 h7 h8 h9 h10
  show W p l e R s m args below meth cd H locs k j Q (F0 m pc ls (st.map (en_cv ρ)))
  exact lv_bipush X.1.1 X.1.2.1 hd rfl (K k j H locs ls h1 h2 h3 h4 h5 h6 h7 h8 h9 h10)
theorem so_sipush (X : en_X p R s m args meth cd D tc ρ b0 x0 u0 x1 u1 y) {n : Int} (hd : decode (mt_code y) pc = .ok (.sipush n, 3)) (K : en_A p l e R s m args below meth cd Q D tc ρ b0 x0 u0 x1 u1 y sc (pc + 3, lv, .int (Int16.ofInt n).toInt32 :: st, c, x, u)) : en_A p l e R s m args below meth cd Q D tc ρ b0 x0 u0 x1 u1 y sc (pc, lv, st, c, x, u) := by
  intro k j H locs ls h1 h2 h3 h4 h5 h6 h7 h8 h9 h10
  show W p l e R s m args below meth cd H locs k j Q (F0 m pc ls (st.map (en_cv ρ)))
  exact lv_sipush X.1.1 X.1.2.1 hd rfl (K k j H locs ls h1 h2 h3 h4 h5 h6 h7 h8 h9 h10)
theorem so_ldc (X : en_X p R s m args meth cd D tc ρ b0 x0 u0 x1 u1 y) {n : Nat} {v : Int32} (hd : decode (mt_code y) pc = .ok (.ldc n, 2)) (hw : Cond.constant (mt_cn (mt_cls y)) n v ∈ en_T0) (K : en_A p l e R s m args below meth cd Q D tc ρ b0 x0 u0 x1 u1 y sc (pc + 2, lv, .int v :: st, c, x, u)) : en_A p l e R s m args below meth cd Q D tc ρ b0 x0 u0 x1 u1 y sc (pc, lv, st, c, x, u) := by
  intro k j H locs ls h1 h2 h3 h4 h5 h6 h7 h8 h9 h10
  show W p l e R s m args below meth cd H locs k j Q (F0 m pc ls (st.map (en_cv ρ)))
  exact lv_ldc X.1.1 X.1.2.1 X.1.2.2.2.1 (X.1.2.2.2.2 _ hw) hd (K k j H locs ls h1 h2 h3 h4 h5 h6 h7 h8 h9 h10)
theorem so_lconst (X : en_X p R s m args meth cd D tc ρ b0 x0 u0 x1 u1 y) {n : Fin 2} (hd : decode (mt_code y) pc = .ok (.lconst n, 1)) (K : en_A p l e R s m args below meth cd Q D tc ρ b0 x0 u0 x1 u1 y sc (pc + 1, lv, .long (Int64.ofNat (n : Nat)) :: st, c, x, u)) : en_A p l e R s m args below meth cd Q D tc ρ b0 x0 u0 x1 u1 y sc (pc, lv, st, c, x, u) := by
  intro k j H locs ls h1 h2 h3 h4 h5 h6 h7 h8 h9 h10
  show W p l e R s m args below meth cd H locs k j Q (F0 m pc ls (st.map (en_cv ρ)))
  exact lv_lconst X.1.1 X.1.2.1 hd rfl (K k j H locs ls h1 h2 h3 h4 h5 h6 h7 h8 h9 h10)
theorem so_iload (X : en_X p R s m args meth cd D tc ρ b0 x0 u0 x1 u1 y) {i : Nat} {a : Int32} (hd : decode (mt_code y) pc = .ok (.iload i, 2)) (hl : lv[i]? = some (some (.int a))) (K : en_A p l e R s m args below meth cd Q D tc ρ b0 x0 u0 x1 u1 y sc (pc + 2, lv, .int a :: st, c, x, u)) : en_A p l e R s m args below meth cd Q D tc ρ b0 x0 u0 x1 u1 y sc (pc, lv, st, c, x, u) := by
  intro k j H locs ls h1 h2 h3 h4 h5 h6 h7 h8 h9 h10
  show W p l e R s m args below meth cd H locs k j Q (F0 m pc ls (st.map (en_cv ρ)))
  exact lv_iload X.1.1 X.1.2.1 hd (h8.2.2 i _ hl).2 (K k j H locs ls h1 h2 h3 h4 h5 h6 h7 h8 h9 h10)
theorem so_iload_n (X : en_X p R s m args meth cd D tc ρ b0 x0 u0 x1 u1 y) {i : Fin 4} {a : Int32} (hd : decode (mt_code y) pc = .ok (.iload_n i, 1)) (hl : lv[(i : Nat)]? = some (some (.int a))) (K : en_A p l e R s m args below meth cd Q D tc ρ b0 x0 u0 x1 u1 y sc (pc + 1, lv, .int a :: st, c, x, u)) : en_A p l e R s m args below meth cd Q D tc ρ b0 x0 u0 x1 u1 y sc (pc, lv, st, c, x, u) := by
  intro k j H locs ls h1 h2 h3 h4 h5 h6 h7 h8 h9 h10
  show W p l e R s m args below meth cd H locs k j Q (F0 m pc ls (st.map (en_cv ρ)))
  exact lv_iload_n X.1.1 X.1.2.1 hd rfl (h8.2.2 (i : Nat) _ hl).2 (K k j H locs ls h1 h2 h3 h4 h5 h6 h7 h8 h9 h10)
theorem so_istore (X : en_X p R s m args meth cd D tc ρ b0 x0 u0 x1 u1 y) {i : Nat} {a : Int32} (hd : decode (mt_code y) pc = .ok (.istore i, 2)) (hn : i < lv.length) (K : en_A p l e R s m args below meth cd Q D tc ρ b0 x0 u0 x1 u1 y sc (pc + 2, lv.set i (some (.int a)), st, c, x, u)) : en_A p l e R s m args below meth cd Q D tc ρ b0 x0 u0 x1 u1 y sc (pc, lv, .int a :: st, c, x, u) := by
  intro k j H locs ls h1 h2 h3 h4 h5 h6 h7 h8 h9 h10
  show W p l e R s m args below meth cd H locs k j Q (F0 m pc ls (.int a :: st.map (en_cv ρ)))
  exact lv_istore X.1.1 X.1.2.1 hd (en_lr_has h8) hn rfl (fun ls' hl' => K k j H locs ls' h1 h2 h3 h4 h5 h6 h7 (en_lr_set h8 hn rfl hl') (by show (lv.set i _).length = _; rw [List.length_set]; exact h9) h10)
theorem so_istore_n (X : en_X p R s m args meth cd D tc ρ b0 x0 u0 x1 u1 y) {i : Fin 4} {a : Int32} (hd : decode (mt_code y) pc = .ok (.istore_n i, 1)) (hn : (i : Nat) < lv.length) (K : en_A p l e R s m args below meth cd Q D tc ρ b0 x0 u0 x1 u1 y sc (pc + 1, lv.set (i : Nat) (some (.int a)), st, c, x, u)) : en_A p l e R s m args below meth cd Q D tc ρ b0 x0 u0 x1 u1 y sc (pc, lv, .int a :: st, c, x, u) := by
  intro k j H locs ls h1 h2 h3 h4 h5 h6 h7 h8 h9 h10
  show W p l e R s m args below meth cd H locs k j Q (F0 m pc ls (.int a :: st.map (en_cv ρ)))
  exact lv_istore_n X.1.1 X.1.2.1 hd rfl (en_lr_has h8) hn rfl (fun ls' hl' => K k j H locs ls' h1 h2 h3 h4 h5 h6 h7 (en_lr_set h8 hn rfl hl') (by show (lv.set (i : Nat) _).length = _; rw [List.length_set]; exact h9) h10)
theorem so_aload (X : en_X p R s m args meth cd D tc ρ b0 x0 u0 x1 u1 y) {i : Nat} {a : Nat} (hd : decode (mt_code y) pc = .ok (.aload i, 2)) (hl : lv[i]? = some (some (.ref a))) (K : en_A p l e R s m args below meth cd Q D tc ρ b0 x0 u0 x1 u1 y sc (pc + 2, lv, .ref a :: st, c, x, u)) : en_A p l e R s m args below meth cd Q D tc ρ b0 x0 u0 x1 u1 y sc (pc, lv, st, c, x, u) := by
  intro k j H locs ls h1 h2 h3 h4 h5 h6 h7 h8 h9 h10
  show W p l e R s m args below meth cd H locs k j Q (F0 m pc ls (st.map (en_cv ρ)))
  exact lv_aload X.1.1 X.1.2.1 hd (h8.2.2 i _ hl).2 (K k j H locs ls h1 h2 h3 h4 h5 h6 h7 h8 h9 h10)
theorem so_aload_n (X : en_X p R s m args meth cd D tc ρ b0 x0 u0 x1 u1 y) {i : Fin 4} {a : Nat} (hd : decode (mt_code y) pc = .ok (.aload_n i, 1)) (hl : lv[(i : Nat)]? = some (some (.ref a))) (K : en_A p l e R s m args below meth cd Q D tc ρ b0 x0 u0 x1 u1 y sc (pc + 1, lv, .ref a :: st, c, x, u)) : en_A p l e R s m args below meth cd Q D tc ρ b0 x0 u0 x1 u1 y sc (pc, lv, st, c, x, u) := by
  intro k j H locs ls h1 h2 h3 h4 h5 h6 h7 h8 h9 h10
  show W p l e R s m args below meth cd H locs k j Q (F0 m pc ls (st.map (en_cv ρ)))
  exact lv_aload_n X.1.1 X.1.2.1 hd rfl (h8.2.2 (i : Nat) _ hl).2 (K k j H locs ls h1 h2 h3 h4 h5 h6 h7 h8 h9 h10)
theorem so_astore (X : en_X p R s m args meth cd D tc ρ b0 x0 u0 x1 u1 y) {i : Nat} {a : Nat} (hd : decode (mt_code y) pc = .ok (.astore i, 2)) (hn : i < lv.length) (K : en_A p l e R s m args below meth cd Q D tc ρ b0 x0 u0 x1 u1 y sc (pc + 2, lv.set i (some (.ref a)), st, c, x, u)) : en_A p l e R s m args below meth cd Q D tc ρ b0 x0 u0 x1 u1 y sc (pc, lv, .ref a :: st, c, x, u) := by
  intro k j H locs ls h1 h2 h3 h4 h5 h6 h7 h8 h9 h10
  show W p l e R s m args below meth cd H locs k j Q (F0 m pc ls (.ref (ρ a) :: st.map (en_cv ρ)))
  exact lv_astore X.1.1 X.1.2.1 hd (en_lr_has h8) hn rfl (fun ls' hl' => K k j H locs ls' h1 h2 h3 h4 h5 h6 h7 (en_lr_set h8 hn rfl hl') (by show (lv.set i _).length = _; rw [List.length_set]; exact h9) h10)
theorem so_astore_n (X : en_X p R s m args meth cd D tc ρ b0 x0 u0 x1 u1 y) {i : Fin 4} {a : Nat} (hd : decode (mt_code y) pc = .ok (.astore_n i, 1)) (hn : (i : Nat) < lv.length) (K : en_A p l e R s m args below meth cd Q D tc ρ b0 x0 u0 x1 u1 y sc (pc + 1, lv.set (i : Nat) (some (.ref a)), st, c, x, u)) : en_A p l e R s m args below meth cd Q D tc ρ b0 x0 u0 x1 u1 y sc (pc, lv, .ref a :: st, c, x, u) := by
  intro k j H locs ls h1 h2 h3 h4 h5 h6 h7 h8 h9 h10
  show W p l e R s m args below meth cd H locs k j Q (F0 m pc ls (.ref (ρ a) :: st.map (en_cv ρ)))
  exact lv_astore_n X.1.1 X.1.2.1 hd rfl (en_lr_has h8) hn rfl (fun ls' hl' => K k j H locs ls' h1 h2 h3 h4 h5 h6 h7 (en_lr_set h8 hn rfl hl') (by show (lv.set (i : Nat) _).length = _; rw [List.length_set]; exact h9) h10)
theorem en_ps_at {i : Nat} {v : Value} (hl : lv[i]? = some (some v)) : ∃ q : Nat, (en_ps ρ lv)[q]? = some (i, en_cv ρ v) := List.getElem?_of_mem (en_ps_mem hl)
theorem so_iinc (X : en_X p R s m args meth cd D tc ρ b0 x0 u0 x1 u1 y) {i : Nat} {n : Int} {a : Int32} (hd : decode (mt_code y) pc = .ok (.iinc i n, 3)) (hl : lv[i]? = some (some (.int a))) (hn : i < lv.length) (K : en_A p l e R s m args below meth cd Q D tc ρ b0 x0 u0 x1 u1 y sc (pc + 3, lv.set i (some (.int (a + Int32.ofInt n))), st, c, x, u)) : en_A p l e R s m args below meth cd Q D tc ρ b0 x0 u0 x1 u1 y sc (pc, lv, st, c, x, u) := by
  intro k j H locs ls h1 h2 h3 h4 h5 h6 h7 h8 h9 h10
  obtain ⟨q, hq⟩ := en_ps_at (ρ := ρ) hl
  show W p l e R s m args below meth cd H locs k j Q (F0 m pc ls (st.map (en_cv ρ)))
  exact lv_iinc X.1.1 X.1.2.1 hd (en_lr_has h8) hq rfl hn rfl (fun ls' hl' => K k j H locs ls' h1 h2 h3 h4 h5 h6 h7 (en_lr_set (v := .int (a + Int32.ofInt n)) h8 hn rfl hl') (by show (lv.set i _).length = _; rw [List.length_set]; exact h9) h10)
theorem so_iadd (X : en_X p R s m args meth cd D tc ρ b0 x0 u0 x1 u1 y) {a b : Int32} (hd : decode (mt_code y) pc = .ok (.iadd, 1)) (K : en_A p l e R s m args below meth cd Q D tc ρ b0 x0 u0 x1 u1 y sc (pc + 1, lv, .int (a + b) :: st, c, x, u)) : en_A p l e R s m args below meth cd Q D tc ρ b0 x0 u0 x1 u1 y sc (pc, lv, .int b :: .int a :: st, c, x, u) := by
  intro k j H locs ls h1 h2 h3 h4 h5 h6 h7 h8 h9 h10
  show W p l e R s m args below meth cd H locs k j Q (F0 m pc ls (.int b :: .int a :: st.map (en_cv ρ)))
  exact lv_iadd X.1.1 X.1.2.1 hd (K k j H locs ls h1 h2 h3 h4 h5 h6 h7 h8 h9 h10)
theorem so_isub (X : en_X p R s m args meth cd D tc ρ b0 x0 u0 x1 u1 y) {a b : Int32} (hd : decode (mt_code y) pc = .ok (.isub, 1)) (K : en_A p l e R s m args below meth cd Q D tc ρ b0 x0 u0 x1 u1 y sc (pc + 1, lv, .int (a - b) :: st, c, x, u)) : en_A p l e R s m args below meth cd Q D tc ρ b0 x0 u0 x1 u1 y sc (pc, lv, .int b :: .int a :: st, c, x, u) := by
  intro k j H locs ls h1 h2 h3 h4 h5 h6 h7 h8 h9 h10
  show W p l e R s m args below meth cd H locs k j Q (F0 m pc ls (.int b :: .int a :: st.map (en_cv ρ)))
  exact lv_isub X.1.1 X.1.2.1 hd (K k j H locs ls h1 h2 h3 h4 h5 h6 h7 h8 h9 h10)
theorem so_imul (X : en_X p R s m args meth cd D tc ρ b0 x0 u0 x1 u1 y) {a b : Int32} (hd : decode (mt_code y) pc = .ok (.imul, 1)) (K : en_A p l e R s m args below meth cd Q D tc ρ b0 x0 u0 x1 u1 y sc (pc + 1, lv, .int (a * b) :: st, c, x, u)) : en_A p l e R s m args below meth cd Q D tc ρ b0 x0 u0 x1 u1 y sc (pc, lv, .int b :: .int a :: st, c, x, u) := by
  intro k j H locs ls h1 h2 h3 h4 h5 h6 h7 h8 h9 h10
  show W p l e R s m args below meth cd H locs k j Q (F0 m pc ls (.int b :: .int a :: st.map (en_cv ρ)))
  exact lv_imul X.1.1 X.1.2.1 hd (K k j H locs ls h1 h2 h3 h4 h5 h6 h7 h8 h9 h10)
theorem so_iand (X : en_X p R s m args meth cd D tc ρ b0 x0 u0 x1 u1 y) {a b : Int32} (hd : decode (mt_code y) pc = .ok (.iand, 1)) (K : en_A p l e R s m args below meth cd Q D tc ρ b0 x0 u0 x1 u1 y sc (pc + 1, lv, .int (a &&& b) :: st, c, x, u)) : en_A p l e R s m args below meth cd Q D tc ρ b0 x0 u0 x1 u1 y sc (pc, lv, .int b :: .int a :: st, c, x, u) := by
  intro k j H locs ls h1 h2 h3 h4 h5 h6 h7 h8 h9 h10
  show W p l e R s m args below meth cd H locs k j Q (F0 m pc ls (.int b :: .int a :: st.map (en_cv ρ)))
  exact lv_iand X.1.1 X.1.2.1 hd (K k j H locs ls h1 h2 h3 h4 h5 h6 h7 h8 h9 h10)
theorem so_idiv (X : en_X p R s m args meth cd D tc ρ b0 x0 u0 x1 u1 y) {a b : Int32} (hd : decode (mt_code y) pc = .ok (.idiv, 1)) (hb : ¬ b = 0) (K : en_A p l e R s m args below meth cd Q D tc ρ b0 x0 u0 x1 u1 y sc (pc + 1, lv, .int (a / b) :: st, c, x, u)) : en_A p l e R s m args below meth cd Q D tc ρ b0 x0 u0 x1 u1 y sc (pc, lv, .int b :: .int a :: st, c, x, u) := by
  intro k j H locs ls h1 h2 h3 h4 h5 h6 h7 h8 h9 h10
  show W p l e R s m args below meth cd H locs k j Q (F0 m pc ls (.int b :: .int a :: st.map (en_cv ρ)))
  exact lv_idiv X.1.1 X.1.2.1 hd hb (K k j H locs ls h1 h2 h3 h4 h5 h6 h7 h8 h9 h10)
theorem so_irem (X : en_X p R s m args meth cd D tc ρ b0 x0 u0 x1 u1 y) {a b : Int32} (hd : decode (mt_code y) pc = .ok (.irem, 1)) (hb : ¬ b = 0) (K : en_A p l e R s m args below meth cd Q D tc ρ b0 x0 u0 x1 u1 y sc (pc + 1, lv, .int (a - a / b * b) :: st, c, x, u)) : en_A p l e R s m args below meth cd Q D tc ρ b0 x0 u0 x1 u1 y sc (pc, lv, .int b :: .int a :: st, c, x, u) := by
  intro k j H locs ls h1 h2 h3 h4 h5 h6 h7 h8 h9 h10
  show W p l e R s m args below meth cd H locs k j Q (F0 m pc ls (.int b :: .int a :: st.map (en_cv ρ)))
  exact lv_irem X.1.1 X.1.2.1 hd hb (K k j H locs ls h1 h2 h3 h4 h5 h6 h7 h8 h9 h10)
theorem so_land (X : en_X p R s m args meth cd D tc ρ b0 x0 u0 x1 u1 y) {a b : Int64} (hd : decode (mt_code y) pc = .ok (.land, 1)) (K : en_A p l e R s m args below meth cd Q D tc ρ b0 x0 u0 x1 u1 y sc (pc + 1, lv, .long (a &&& b) :: st, c, x, u)) : en_A p l e R s m args below meth cd Q D tc ρ b0 x0 u0 x1 u1 y sc (pc, lv, .long b :: .long a :: st, c, x, u) := by
  intro k j H locs ls h1 h2 h3 h4 h5 h6 h7 h8 h9 h10
  show W p l e R s m args below meth cd H locs k j Q (F0 m pc ls (.long b :: .long a :: st.map (en_cv ρ)))
  exact lv_land X.1.1 X.1.2.1 hd (K k j H locs ls h1 h2 h3 h4 h5 h6 h7 h8 h9 h10)
theorem so_lor (X : en_X p R s m args meth cd D tc ρ b0 x0 u0 x1 u1 y) {a b : Int64} (hd : decode (mt_code y) pc = .ok (.lor, 1)) (K : en_A p l e R s m args below meth cd Q D tc ρ b0 x0 u0 x1 u1 y sc (pc + 1, lv, .long (a ||| b) :: st, c, x, u)) : en_A p l e R s m args below meth cd Q D tc ρ b0 x0 u0 x1 u1 y sc (pc, lv, .long b :: .long a :: st, c, x, u) := by
  intro k j H locs ls h1 h2 h3 h4 h5 h6 h7 h8 h9 h10
  show W p l e R s m args below meth cd H locs k j Q (F0 m pc ls (.long b :: .long a :: st.map (en_cv ρ)))
  exact lv_lor X.1.1 X.1.2.1 hd (K k j H locs ls h1 h2 h3 h4 h5 h6 h7 h8 h9 h10)
theorem so_lcmp (X : en_X p R s m args meth cd D tc ρ b0 x0 u0 x1 u1 y) {a b : Int64} (hd : decode (mt_code y) pc = .ok (.lcmp, 1)) (K : en_A p l e R s m args below meth cd Q D tc ρ b0 x0 u0 x1 u1 y sc (pc + 1, lv, .int (lg_cmp a b) :: st, c, x, u)) : en_A p l e R s m args below meth cd Q D tc ρ b0 x0 u0 x1 u1 y sc (pc, lv, .long b :: .long a :: st, c, x, u) := by
  intro k j H locs ls h1 h2 h3 h4 h5 h6 h7 h8 h9 h10
  show W p l e R s m args below meth cd H locs k j Q (F0 m pc ls (.long b :: .long a :: st.map (en_cv ρ)))
  exact W.lcmp X.1.1 X.1.2.1 hd (K k j H locs ls h1 h2 h3 h4 h5 h6 h7 h8 h9 h10)
theorem so_lshl (X : en_X p R s m args meth cd D tc ρ b0 x0 u0 x1 u1 y) {a : Int64} {b : Int32} (hd : decode (mt_code y) pc = .ok (.lshl, 1)) (K : en_A p l e R s m args below meth cd Q D tc ρ b0 x0 u0 x1 u1 y sc (pc + 1, lv, .long (a <<< (b.toInt64 &&& 63)) :: st, c, x, u)) : en_A p l e R s m args below meth cd Q D tc ρ b0 x0 u0 x1 u1 y sc (pc, lv, .int b :: .long a :: st, c, x, u) := by
  intro k j H locs ls h1 h2 h3 h4 h5 h6 h7 h8 h9 h10
  show W p l e R s m args below meth cd H locs k j Q (F0 m pc ls (.int b :: .long a :: st.map (en_cv ρ)))
  exact lv_lshl X.1.1 X.1.2.1 hd rfl (K k j H locs ls h1 h2 h3 h4 h5 h6 h7 h8 h9 h10)
theorem so_lshr (X : en_X p R s m args meth cd D tc ρ b0 x0 u0 x1 u1 y) {a : Int64} {b : Int32} (hd : decode (mt_code y) pc = .ok (.lshr, 1)) (K : en_A p l e R s m args below meth cd Q D tc ρ b0 x0 u0 x1 u1 y sc (pc + 1, lv, .long (a >>> (b.toInt64 &&& 63)) :: st, c, x, u)) : en_A p l e R s m args below meth cd Q D tc ρ b0 x0 u0 x1 u1 y sc (pc, lv, .int b :: .long a :: st, c, x, u) := by
  intro k j H locs ls h1 h2 h3 h4 h5 h6 h7 h8 h9 h10
  show W p l e R s m args below meth cd H locs k j Q (F0 m pc ls (.int b :: .long a :: st.map (en_cv ρ)))
  exact lv_lshr X.1.1 X.1.2.1 hd rfl (K k j H locs ls h1 h2 h3 h4 h5 h6 h7 h8 h9 h10)
theorem so_lushr (X : en_X p R s m args meth cd D tc ρ b0 x0 u0 x1 u1 y) {a : Int64} {b : Int32} (hd : decode (mt_code y) pc = .ok (.lushr, 1)) (K : en_A p l e R s m args below meth cd Q D tc ρ b0 x0 u0 x1 u1 y sc (pc + 1, lv, .long ((a.toUInt64 >>> (b.toInt64.toUInt64 &&& Int64.toUInt64 63)).toInt64) :: st, c, x, u)) : en_A p l e R s m args below meth cd Q D tc ρ b0 x0 u0 x1 u1 y sc (pc, lv, .int b :: .long a :: st, c, x, u) := by
  intro k j H locs ls h1 h2 h3 h4 h5 h6 h7 h8 h9 h10
  show W p l e R s m args below meth cd H locs k j Q (F0 m pc ls (.int b :: .long a :: st.map (en_cv ρ)))
  exact lv_lushr X.1.1 X.1.2.1 hd rfl (K k j H locs ls h1 h2 h3 h4 h5 h6 h7 h8 h9 h10)
theorem so_dup (X : en_X p R s m args meth cd D tc ρ b0 x0 u0 x1 u1 y) {v : Value} (hd : decode (mt_code y) pc = .ok (.dup, 1)) (hv : v.category = 1) (K : en_A p l e R s m args below meth cd Q D tc ρ b0 x0 u0 x1 u1 y sc (pc + 1, lv, v :: v :: st, c, x, u)) : en_A p l e R s m args below meth cd Q D tc ρ b0 x0 u0 x1 u1 y sc (pc, lv, v :: st, c, x, u) := by
  intro k j H locs ls h1 h2 h3 h4 h5 h6 h7 h8 h9 h10
  show W p l e R s m args below meth cd H locs k j Q (F0 m pc ls (en_cv ρ v :: st.map (en_cv ρ)))
  exact lv_dup X.1.1 X.1.2.1 hd (by rw [en_cv_cat]; exact hv) (K k j H locs ls h1 h2 h3 h4 h5 h6 h7 h8 h9 h10)
theorem so_dup2 (X : en_X p R s m args meth cd D tc ρ b0 x0 u0 x1 u1 y) {v w : Value} (hd : decode (mt_code y) pc = .ok (.dup2, 1)) (hv : v.category = 1 ∧ w.category = 1) (K : en_A p l e R s m args below meth cd Q D tc ρ b0 x0 u0 x1 u1 y sc (pc + 1, lv, v :: w :: v :: w :: st, c, x, u)) : en_A p l e R s m args below meth cd Q D tc ρ b0 x0 u0 x1 u1 y sc (pc, lv, v :: w :: st, c, x, u) := by
  intro k j H locs ls h1 h2 h3 h4 h5 h6 h7 h8 h9 h10
  show W p l e R s m args below meth cd H locs k j Q (F0 m pc ls (en_cv ρ v :: en_cv ρ w :: st.map (en_cv ρ)))
  exact lv_dup2_11 X.1.1 X.1.2.1 hd (by rw [en_cv_cat]; exact hv.1) (by rw [en_cv_cat]; exact hv.2) (K k j H locs ls h1 h2 h3 h4 h5 h6 h7 h8 h9 h10)
theorem so_pop (X : en_X p R s m args meth cd D tc ρ b0 x0 u0 x1 u1 y) {v : Value} (hd : decode (mt_code y) pc = .ok (.pop, 1)) (hv : v.category = 1) (K : en_A p l e R s m args below meth cd Q D tc ρ b0 x0 u0 x1 u1 y sc (pc + 1, lv, st, c, x, u)) : en_A p l e R s m args below meth cd Q D tc ρ b0 x0 u0 x1 u1 y sc (pc, lv, v :: st, c, x, u) := by
  intro k j H locs ls h1 h2 h3 h4 h5 h6 h7 h8 h9 h10
  show W p l e R s m args below meth cd H locs k j Q (F0 m pc ls (en_cv ρ v :: st.map (en_cv ρ)))
  exact lv_pop X.1.1 X.1.2.1 hd (by rw [en_cv_cat]; exact hv) (K k j H locs ls h1 h2 h3 h4 h5 h6 h7 h8 h9 h10)
theorem so_goto (X : en_X p R s m args meth cd D tc ρ b0 x0 u0 x1 u1 y) {off : Int} (hd : decode (mt_code y) pc = .ok (.goto off, 3)) (ht : 0 ≤ (pc : Int) + off) (K : en_A p l e R s m args below meth cd Q D tc ρ b0 x0 u0 x1 u1 y sc (((pc : Int) + off).toNat, lv, st, c, x, u)) : en_A p l e R s m args below meth cd Q D tc ρ b0 x0 u0 x1 u1 y sc (pc, lv, st, c, x, u) := by
  intro k j H locs ls h1 h2 h3 h4 h5 h6 h7 h8 h9 h10
  exact lv_goto X.1.1 X.1.2.1 hd (tgt := ((pc : Int) + off).toNat) (Int.toNat_of_nonneg ht).symm (K k j H locs ls h1 h2 h3 h4 h5 h6 h7 h8 h9 h10)
theorem so_if (X : en_X p R s m args meth cd D tc ρ b0 x0 u0 x1 u1 y) {a : Int32} {off : Int} {cd' : Jvm.ClassFile.Cond} (hd : decode (mt_code y) pc = .ok (.ifCond cd' off, 3)) (ht' : (pc : Int) + off = (((pc : Int) + off).toNat : Int)) (K1 : en_i1 cd' a → (True ∧ en_A p l e R s m args below meth cd Q D tc ρ b0 x0 u0 x1 u1 y sc (((pc : Int) + off).toNat, lv, st, c, x, u))) (K2 : ¬ en_i1 cd' a → en_A p l e R s m args below meth cd Q D tc ρ b0 x0 u0 x1 u1 y sc (pc + 3, lv, st, c, x, u)) : en_A p l e R s m args below meth cd Q D tc ρ b0 x0 u0 x1 u1 y sc (pc, lv, .int a :: st, c, x, u) := by
  intro k j H locs ls h1 h2 h3 h4 h5 h6 h7 h8 h9 h10
  show W p l e R s m args below meth cd H locs k j Q (F0 m pc ls (.int a :: st.map (en_cv ρ)))
  cases cd' with
  | eq => exact lv_if_eq (tgt := ((pc : Int) + off).toNat) X.1.1 X.1.2.1 hd ht' (fun w => (K1 w).2 k j H locs ls h1 h2 h3 h4 h5 h6 h7 h8 h9 h10) (fun w => K2 w k j H locs ls h1 h2 h3 h4 h5 h6 h7 h8 h9 h10)
  | ne => exact lv_if_ne (tgt := ((pc : Int) + off).toNat) X.1.1 X.1.2.1 hd ht' (fun w => (K1 w).2 k j H locs ls h1 h2 h3 h4 h5 h6 h7 h8 h9 h10) (fun w => K2 (fun z => z w) k j H locs ls h1 h2 h3 h4 h5 h6 h7 h8 h9 h10)
  | lt => exact lv_if_lt (tgt := ((pc : Int) + off).toNat) X.1.1 X.1.2.1 hd ht' (fun w => (K1 w).2 k j H locs ls h1 h2 h3 h4 h5 h6 h7 h8 h9 h10) (fun w => K2 w k j H locs ls h1 h2 h3 h4 h5 h6 h7 h8 h9 h10)
  | ge => exact lv_if_ge (tgt := ((pc : Int) + off).toNat) X.1.1 X.1.2.1 hd ht' (fun w => (K1 w).2 k j H locs ls h1 h2 h3 h4 h5 h6 h7 h8 h9 h10) (fun w => K2 w k j H locs ls h1 h2 h3 h4 h5 h6 h7 h8 h9 h10)
  | gt => exact lv_if_gt (tgt := ((pc : Int) + off).toNat) X.1.1 X.1.2.1 hd ht' (fun w => (K1 w).2 k j H locs ls h1 h2 h3 h4 h5 h6 h7 h8 h9 h10) (fun w => K2 w k j H locs ls h1 h2 h3 h4 h5 h6 h7 h8 h9 h10)
  | le => exact lv_if_le (tgt := ((pc : Int) + off).toNat) X.1.1 X.1.2.1 hd ht' (fun w => (K1 w).2 k j H locs ls h1 h2 h3 h4 h5 h6 h7 h8 h9 h10) (fun w => K2 w k j H locs ls h1 h2 h3 h4 h5 h6 h7 h8 h9 h10)
theorem so_icmp (X : en_X p R s m args meth cd D tc ρ b0 x0 u0 x1 u1 y) {a b : Int32} {off : Int} {cd' : Jvm.ClassFile.Cond} (hd : decode (mt_code y) pc = .ok (.if_icmp cd' off, 3)) (ht' : (pc : Int) + off = (((pc : Int) + off).toNat : Int)) (K1 : en_i2 cd' a b → (True ∧ en_A p l e R s m args below meth cd Q D tc ρ b0 x0 u0 x1 u1 y sc (((pc : Int) + off).toNat, lv, st, c, x, u))) (K2 : ¬ en_i2 cd' a b → en_A p l e R s m args below meth cd Q D tc ρ b0 x0 u0 x1 u1 y sc (pc + 3, lv, st, c, x, u)) : en_A p l e R s m args below meth cd Q D tc ρ b0 x0 u0 x1 u1 y sc (pc, lv, .int b :: .int a :: st, c, x, u) := by
  intro k j H locs ls h1 h2 h3 h4 h5 h6 h7 h8 h9 h10
  show W p l e R s m args below meth cd H locs k j Q (F0 m pc ls (.int b :: .int a :: st.map (en_cv ρ)))
  cases cd' with
  | eq => exact lv_icmp_eq (tgt := ((pc : Int) + off).toNat) X.1.1 X.1.2.1 hd ht' (fun w => (K1 w).2 k j H locs ls h1 h2 h3 h4 h5 h6 h7 h8 h9 h10) (fun w => K2 w k j H locs ls h1 h2 h3 h4 h5 h6 h7 h8 h9 h10)
  | ne => exact lv_icmp_ne (tgt := ((pc : Int) + off).toNat) X.1.1 X.1.2.1 hd ht' (fun w => (K1 w).2 k j H locs ls h1 h2 h3 h4 h5 h6 h7 h8 h9 h10) (fun w => K2 (fun z => z w) k j H locs ls h1 h2 h3 h4 h5 h6 h7 h8 h9 h10)
  | lt => exact lv_icmp_lt (tgt := ((pc : Int) + off).toNat) X.1.1 X.1.2.1 hd ht' (fun w => (K1 w).2 k j H locs ls h1 h2 h3 h4 h5 h6 h7 h8 h9 h10) (fun w => K2 w k j H locs ls h1 h2 h3 h4 h5 h6 h7 h8 h9 h10)
  | ge => exact lv_icmp_ge (tgt := ((pc : Int) + off).toNat) X.1.1 X.1.2.1 hd ht' (fun w => (K1 w).2 k j H locs ls h1 h2 h3 h4 h5 h6 h7 h8 h9 h10) (fun w => K2 w k j H locs ls h1 h2 h3 h4 h5 h6 h7 h8 h9 h10)
  | gt => exact lv_icmp_gt (tgt := ((pc : Int) + off).toNat) X.1.1 X.1.2.1 hd ht' (fun w => (K1 w).2 k j H locs ls h1 h2 h3 h4 h5 h6 h7 h8 h9 h10) (fun w => K2 w k j H locs ls h1 h2 h3 h4 h5 h6 h7 h8 h9 h10)
  | le => exact lv_icmp_le (tgt := ((pc : Int) + off).toNat) X.1.1 X.1.2.1 hd ht' (fun w => (K1 w).2 k j H locs ls h1 h2 h3 h4 h5 h6 h7 h8 h9 h10) (fun w => K2 w k j H locs ls h1 h2 h3 h4 h5 h6 h7 h8 h9 h10)
theorem so_tab (X : en_X p R s m args meth cd D tc ρ b0 x0 u0 x1 u1 y) {a : Int32} {d lo hi : Int} {offs : Array Int} {len : Nat} (hd : decode (mt_code y) pc = .ok (.tableswitch d lo hi offs, len)) (K1 : (a.toInt < lo ∨ hi < a.toInt) → 0 ≤ (pc : Int) + d ∧ en_A p l e R s m args below meth cd Q D tc ρ b0 x0 u0 x1 u1 y sc (((pc : Int) + d).toNat, lv, st, c, x, u)) (K2 : ¬ (a.toInt < lo ∨ hi < a.toInt) → ∃ off, offs[(a.toInt - lo).toNat]? = some off ∧ 0 ≤ (pc : Int) + off ∧ en_A p l e R s m args below meth cd Q D tc ρ b0 x0 u0 x1 u1 y sc (((pc : Int) + off).toNat, lv, st, c, x, u)) : en_A p l e R s m args below meth cd Q D tc ρ b0 x0 u0 x1 u1 y sc (pc, lv, .int a :: st, c, x, u) := by
  intro k j H locs ls h1 h2 h3 h4 h5 h6 h7 h8 h9 h10
  show W p l e R s m args below meth cd H locs k j Q (F0 m pc ls (.int a :: st.map (en_cv ρ)))
  by_cases hh : a.toInt < lo ∨ hi < a.toInt
  · obtain ⟨ht, K⟩ := K1 hh
    exact lv_tableOut X.1.1 X.1.2.1 hd hh (Int.toNat_of_nonneg ht).symm (K k j H locs ls h1 h2 h3 h4 h5 h6 h7 h8 h9 h10)
  · obtain ⟨off, ho, ht, K⟩ := K2 hh
    exact lv_tableIn X.1.1 X.1.2.1 hd (fun z => hh (Or.inl z)) (fun z => hh (Or.inr z)) ho (Int.toNat_of_nonneg ht).symm (K k j H locs ls h1 h2 h3 h4 h5 h6 h7 h8 h9 h10)
theorem so_look (X : en_X p R s m args meth cd D tc ρ b0 x0 u0 x1 u1 y) {a : Int32} {d : Int} {ps : Array (Int × Int)} {len : Nat} (hd : decode (mt_code y) pc = .ok (.lookupswitch d ps, len)) (hp : (ps.toList.zip (ps.toList.drop 1)).all (fun (a, next) => a.1 < next.1) = true) (ht : 0 ≤ (pc : Int) + Op.lookupswitch.offset ps.toList d a.toInt) (K : en_A p l e R s m args below meth cd Q D tc ρ b0 x0 u0 x1 u1 y sc (((pc : Int) + Op.lookupswitch.offset ps.toList d a.toInt).toNat, lv, st, c, x, u)) : en_A p l e R s m args below meth cd Q D tc ρ b0 x0 u0 x1 u1 y sc (pc, lv, .int a :: st, c, x, u) := by
  intro k j H locs ls h1 h2 h3 h4 h5 h6 h7 h8 h9 h10
  show W p l e R s m args below meth cd H locs k j Q (F0 m pc ls (.int a :: st.map (en_cv ρ)))
  exact lv_lookup X.1.1 X.1.2.1 hd hp rfl (Int.toNat_of_nonneg ht).symm (K k j H locs ls h1 h2 h3 h4 h5 h6 h7 h8 h9 h10)
theorem so_zald (X : en_X p R s m args meth cd D tc ρ b0 x0 u0 x1 u1 y) {a n : Nat} {i : Int32} {f : Nat → Int32} (hd : decode (mt_code y) pc = .ok (.baload, 1)) (hc : c a = .inl (2, n, .inl f)) (ha : a < x) (hi : vp_in i n) (K : en_A p l e R s m args below meth cd Q D tc ρ b0 x0 u0 x1 u1 y sc (pc + 1, lv, .int (f i.toNatClampNeg) :: st, c, x, u)) : en_A p l e R s m args below meth cd Q D tc ρ b0 x0 u0 x1 u1 y sc (pc, lv, .int i :: .ref a :: st, c, x, u) := by
  intro k j H locs ls h1 h2 h3 h4 h5 h6 h7 h8 h9 h10
  show W p l e R s m args below meth cd H locs k j Q (F0 m pc ls (.int i :: .ref (ρ a) :: st.map (en_cv ρ)))
  exact va_zald X.1.1 X.1.2.1 X.2.1.1 h6 a 2 (cA := tc 2) (n := n) (f := f) (en_ws_at ha hc) rfl hi hd (K k j H locs ls h1 h2 h3 h4 h5 h6 h7 h8 h9 h10)
theorem so_lald (X : en_X p R s m args meth cd D tc ρ b0 x0 u0 x1 u1 y) {a n : Nat} {i : Int32} {f : Nat → Int64} (hd : decode (mt_code y) pc = .ok (.laload, 1)) (hc : c a = .inl (1, n, .inr (.inl f))) (ha : a < x) (hi : vp_in i n) (K : en_A p l e R s m args below meth cd Q D tc ρ b0 x0 u0 x1 u1 y sc (pc + 1, lv, .long (f i.toNatClampNeg) :: st, c, x, u)) : en_A p l e R s m args below meth cd Q D tc ρ b0 x0 u0 x1 u1 y sc (pc, lv, .int i :: .ref a :: st, c, x, u) := by
  intro k j H locs ls h1 h2 h3 h4 h5 h6 h7 h8 h9 h10
  show W p l e R s m args below meth cd H locs k j Q (F0 m pc ls (.int i :: .ref (ρ a) :: st.map (en_cv ρ)))
  exact va_lald X.1.1 X.1.2.1 X.2.1.1 h6 a 1 (cA := tc 1) (n := n) (f := f) (en_ws_at ha hc) rfl hi hd (K k j H locs ls h1 h2 h3 h4 h5 h6 h7 h8 h9 h10)
theorem so_iald (X : en_X p R s m args meth cd D tc ρ b0 x0 u0 x1 u1 y) (hX : y = mt_law → ∃ b, ρ en_S = b ∧ va_X b sc.1 sc.2 s s.heap ∧ b < s.heap.size ∧ ¬ b0 ≤ b) {a n : Nat} {i : Int32} {f : Nat → Int32} (hd : decode (mt_code y) pc = .ok (.iaload, 1)) (hc : c a = .inl (0, n, .inl f)) (ha : en_rd y a x) (hi : vp_in i n) (K : en_A p l e R s m args below meth cd Q D tc ρ b0 x0 u0 x1 u1 y sc (pc + 1, lv, .int (f i.toNatClampNeg) :: st, c, x, u)) : en_A p l e R s m args below meth cd Q D tc ρ b0 x0 u0 x1 u1 y sc (pc, lv, .int i :: .ref a :: st, c, x, u) := by
  intro k j H locs ls h1 h2 h3 h4 h5 h6 h7 h8 h9 h10
  show W p l e R s m args below meth cd H locs k j Q (F0 m pc ls (.int i :: .ref (ρ a) :: st.map (en_cv ρ)))
  rcases ha with ha | ⟨ha, hy⟩
  · exact va_iald X.1.1 X.1.2.1 X.2.1.1 h6 a 0 (cA := tc 0) (n := n) (f := f) (en_ws_at ha hc) rfl hi hd (K k j H locs ls h1 h2 h3 h4 h5 h6 h7 h8 h9 h10)
  · subst ha
    obtain ⟨b, e1, e2, e3, e4⟩ := hX hy
    have e5 := hc.symm.trans (h10 hy)
    have e6 : n = sc.1 ∧ f = sc.2 := by
      have e7 := Sum.inl.inj e5
      have e8 := congrArg (fun q => q.2.1) e7
      have e9 := congrArg (fun q => q.2.2) e7
      exact ⟨e8, Sum.inl.inj e9⟩
    obtain ⟨rfl, rfl⟩ := e6
    rw [e1]
    exact va_sld (A := fun q => b0 ≤ q) X.1.1 X.1.2.1 e2 e3 e4 h7 hi hd (K k j H locs ls h1 h2 h3 h4 h5 h6 h7 h8 h9 h10)
theorem so_alen (X : en_X p R s m args meth cd D tc ρ b0 x0 u0 x1 u1 y) (hX : y = mt_law → ∃ b, ρ en_S = b ∧ va_X b sc.1 sc.2 s s.heap ∧ b < s.heap.size ∧ ¬ b0 ≤ b) {a t n : Nat} {f : (Nat → Int32) ⊕ (Nat → Int64) ⊕ (Nat → UInt32) ⊕ (Nat → UInt64) ⊕ (Nat → Option Nat)} (hd : decode (mt_code y) pc = .ok (.arraylength, 1)) (hc : c a = .inl (t, n, f)) (ht : t < 3) (ha : en_rd y a x) (K : en_A p l e R s m args below meth cd Q D tc ρ b0 x0 u0 x1 u1 y sc (pc + 1, lv, .int (Int32.ofNat n) :: st, c, x, u)) : en_A p l e R s m args below meth cd Q D tc ρ b0 x0 u0 x1 u1 y sc (pc, lv, .ref a :: st, c, x, u) := by
  intro k j H locs ls h1 h2 h3 h4 h5 h6 h7 h8 h9 h10
  show W p l e R s m args below meth cd H locs k j Q (F0 m pc ls (.ref (ρ a) :: st.map (en_cv ρ)))
  rcases ha with ha | ⟨ha, hy⟩
  · have ht2 : ∃ ty, (en_tys tc)[t]? = some (tc t, ty) := by
      rcases (show t = 0 ∨ t = 1 ∨ t = 2 by omega) with rfl | rfl | rfl <;> exact ⟨_, rfl⟩
    obtain ⟨ty, hty⟩ := ht2
    exact va_alen X.1.1 X.1.2.1 X.2.1.1 h6 a t (cA := tc t) (x := (n, f)) (en_ws_at ha hc) hty rfl hd (K k j H locs ls h1 h2 h3 h4 h5 h6 h7 h8 h9 h10)
  · subst ha
    obtain ⟨b, e1, e2, e3, e4⟩ := hX hy
    have e5 := hc.symm.trans (h10 hy)
    have e6 : n = sc.1 := congrArg (fun q => q.2.1) (Sum.inl.inj e5)
    subst e6
    rw [e1]
    exact va_slen (A := fun q => b0 ≤ q) X.1.1 X.1.2.1 e2 e3 e4 h7 hd (K k j H locs ls h1 h2 h3 h4 h5 h6 h7 h8 h9 h10)
end ESO
end
section
/-! THE ENGINE, machine side: stores, new cells, calls. -/
def en_okF (o n : Nat) (q : Nat × Nat × Nat × Bool) : Prop := ∃ r : vw_C, vwCl[q.1]? = some r ∧ q.2.1 < r.2.2 ∧ Cond.fieldLink (mt_cn o) n (r.2.1 q.2.1).1 (r.2.1 q.2.1).2.1 (r.2.1 q.2.1).2.2.1 ∈ en_T0 ∧ (∀ w ∈ u_ws r.1 r.2.1 r.2.2, w ∈ en_T0) ∧ (∀ a, a < r.2.2 → ∀ b, b < r.2.2 → a ≠ b → (r.2.1 a).2.1 ≠ (r.2.1 b).2.1) ∧ (∃ ty0 : Nat → FieldType, ∀ k, k < r.2.2 → parseFieldDescriptor (r.2.1 k).2.2.1 = some (ty0 k)) ∧ (r.2.1 q.2.1).2.2.2 = q.2.2.2 ∧ (q.2.2.2 = true → q.2.2.1 ≠ 9 → (r.2.1 q.2.1).1 = mt_cn o) ∧
  ∀ ty0 : Nat → FieldType, (∀ k, k < r.2.2 → parseFieldDescriptor (r.2.1 k).2.2.1 = some (ty0 k)) → (q.2.2.1 = 0 ∧ ty0 q.2.1 = .int) ∨ (q.2.2.1 = 1 ∧ ((∃ n, ty0 q.2.1 = .object n) ∨ ∃ t, ty0 q.2.1 = .array t)) ∨ (q.2.2.1 = 2 ∧ ty0 q.2.1 = .boolean) ∨ q.2.2.1 = 9
def en_okN (o n : Nat) (q : Nat × List Value) : Prop := ∃ r : vw_C, vwCl[q.1]? = some r ∧ Cond.classLink (mt_cn o) n r.1 ∈ en_T0 ∧ Cond.instantiable r.1 r.2.2 ∈ en_T0 ∧ Cond.initialized r.1 ∈ en_T0 ∧ (∀ w ∈ u_ws r.1 r.2.1 r.2.2, w ∈ en_T0) ∧ (∃ ty0 : Nat → FieldType, ∀ k, k < r.2.2 → parseFieldDescriptor (r.2.1 k).2.2.1 = some (ty0 k)) ∧ q.2.length = r.2.2 ∧
  (∀ ty0 : Nat → FieldType, (∀ k, k < r.2.2 → parseFieldDescriptor (r.2.1 k).2.2.1 = some (ty0 k)) → ∀ j, j < r.2.2 → defaultValue (ty0 j) = vp_V q.2 j) ∧ ∀ (ρ : Nat → Nat) (v : Value), v ∈ q.2 → en_cv ρ v = v
def en_okY (y k : Nat) : Prop := Cond.code (mt_name y) (mt_code y) (mt_nl y) (mt_ret y) ∈ en_T0 ∧ Cond.initialized (mt_name y).cls ∈ en_T0 ∧ ((mt_name y).cls ≠ "java/lang/invoke/MethodHandle" ∧ (mt_name y).cls ≠ "java/lang/invoke/VarHandle") ∧ (parseMethodDescriptor (mt_name y).desc).map (fun d => d.parameters.length) = some k ∧ mt_nl y ≤ 21
def en_okM (o n : Nat) (q : Nat × Nat × Nat × Nat) : Prop :=
  (q.1 = 0 → (∃ r : vw_C, vwCl[q.2.2.2]? = some r ∧ r.1 = (mt_name q.2.1).cls) ∧ Cond.methodLink (mt_cn o) n (mt_name q.2.1) ∈ en_T0 ∧ Cond.instanceMethod (mt_name q.2.1) ∈ en_T0 ∧ Cond.selects (mt_name q.2.1).cls (mt_name q.2.1) (mt_name q.2.1) ∈ en_T0 ∧ en_okY q.2.1 q.2.2.1) ∧
  (q.1 = 1 → Cond.methodLink (mt_cn o) n (mt_name q.2.1) ∈ en_T0 ∧ Cond.static (mt_name q.2.1) ∈ en_T0 ∧ en_okY q.2.1 q.2.2.1) ∧
  (q.1 = 2 → Cond.methodLink (mt_cn o) n (mt_name q.2.1) ∈ en_T0 ∧ Cond.instanceMethod (mt_name q.2.1) ∈ en_T0 ∧ (mt_name q.2.1).name = "<init>" ∧ mt_ret q.2.1 = none ∧ en_okY q.2.1 q.2.2.1) ∧
  (q.1 = 3 → (∃ h, (mt_cn o, n, mt_name q.2.1, h) ∈ en_nl) ∧ Cond.instanceMethod (mt_name q.2.1) ∈ en_T0 ∧ (mt_name q.2.1).name = "<init>" ∧ mt_ret q.2.1 = none ∧ en_okY q.2.1 q.2.2.1) ∧
  (q.1 = 4 → Cond.methodLink (mt_cn o) n Lib.Math.max.name ∈ en_T0 ∧ Cond.static Lib.Math.max.name ∈ en_T0 ∧ Cond.initialized "java/lang/Math" ∈ en_T0 ∧ Cond.code Lib.Math.max.name Lib.Math.max.code 2 (some .int) ∈ en_T0) ∧
  (q.1 = 5 → Cond.methodLink (mt_cn o) n Lib.Math.min.name ∈ en_T0 ∧ Cond.static Lib.Math.min.name ∈ en_T0 ∧ Cond.initialized "java/lang/Math" ∈ en_T0 ∧ Cond.code Lib.Math.min.name Lib.Math.min.code 2 (some .int) ∈ en_T0) ∧
  (q.1 = 6 → Cond.methodLink (mt_cn o) n arraycopyName ∈ en_T0 ∧ Cond.native arraycopyName ∈ en_T0 ∧ Cond.static arraycopyName ∈ en_T0 ∧ Cond.initialized "java/lang/System" ∈ en_T0) ∧
  (q.1 = 7 → Cond.methodLink (mt_cn o) n Lib.objectInit ∈ en_T0 ∧ Cond.instanceMethod Lib.objectInit ∈ en_T0 ∧ Cond.code Lib.objectInit ⟨#[0xb1]⟩ 1 none ∈ en_T0)
section ES4
variable {p : Program} {l : Launch} {e : Env} {R : Room} {s : State} {m : MethodId} {args : Array Value} {below : List Frame} {meth : Method} {cd : Code} {Q : State → Prop} {D : va_G} {tc : Nat → ClassId} {ρ : Nat → Nat} {b0 x0 u0 x1 u1 y : Nat} {sc : Nat × (Nat → Int32)}
variable {pc : Nat} {lv : en_L} {st : List Value} {c : en_H} {x u : Nat}
theorem en_wsP {H H1 : Heap} {a : Nat} {en : en_C} (hP : va_P D vwCl (en_ws tc ρ c x) H) (hD : va_D (fun q => b0 ≤ q) (en_ws tc ρ c x)) (ha : a < x) (hn : va_at D vwCl (ρ a, en_cE tc ρ en) H1) (oq : ∀ q : Nat, q ≠ ρ a → H1[q]? = H[q]?) : va_P D vwCl (en_ws tc ρ (en_up c a en) x) H1 := by
  rw [← en_ws_set ha]
  exact hP.set hD (en_ws_get ha) hn oq
theorem en_scr {a : Nat} {en : en_C} (ha : a < x) (h3 : x ≤ x1) (hs : x1 < en_S) (h : y = mt_law → c en_S = .inl (0, sc.1, .inl sc.2)) : y = mt_law → (en_up c a en) en_S = .inl (0, sc.1, .inl sc.2) := fun q => (en_up_n (by omega)).trans (h q)
theorem so_iast (X : en_X p R s m args meth cd D tc ρ b0 x0 u0 x1 u1 y) {a n : Nat} {i : Int32} {v : Int32} {f : Nat → Int32} (hd : decode (mt_code y) pc = .ok (.iastore, 1)) (hc : c a = .inl (0, n, .inl (f))) (ha : a < x) (hi : vp_in i n) (K : en_A p l e R s m args below meth cd Q D tc ρ b0 x0 u0 x1 u1 y sc (pc + 1, lv, st, en_up c a (.inl (0, n, .inl (upd f i.toNatClampNeg v))), x, u)) : en_A p l e R s m args below meth cd Q D tc ρ b0 x0 u0 x1 u1 y sc (pc, lv, .int v :: .int i :: .ref a :: st, c, x, u) := by
  intro k j H locs ls h1 h2 h3 h4 h5 h6 h7 h8 h9 h10
  show W p l e R s m args below meth cd H locs k j Q (F0 m pc ls (.int v :: .int i :: .ref (ρ a) :: st.map (en_cv ρ)))
  have hD : va_D (fun q => b0 ≤ q) (en_ws tc ρ c x) := en_ws_D X.2.2.1.1 (Nat.le_of_lt (Nat.lt_of_le_of_lt h3 X.2.2.1.2.2.1))
  have hg := en_ws_at (tc := tc) (ρ := ρ) ha hc
  refine W.iast X.1.1 X.1.2.1 (h6 a _ hg) ((X.2.1.1.2 0 _ rfl).1 n (fun j => .int (f j))) (fun q => by cases q) (by show ¬ (i < 0 ∨ (arrV _ _ _).slots.size ≤ _); rw [arrV_size]; exact hi) rfl rfl hd (fun H1 e z oq => ?_)
  refine K k j H1 _ ls h1 h2 h3 h4 (z.trans h5) (en_wsP h6 hD ha ?_ oq) (h7.put z oq (hD.2 a _ hg)) h8 h9 (en_scr ha h3 X.2.2.1.2.2.1 h10)
  show H1[ρ a]? = some (vp_cell (tc 0) _)
  rw [e, vp_cell_i, vp_cell_i, arrV_store]
  congr 2
  funext q
  by_cases hq : q = i.toNatClampNeg
  · subst hq
    simp [updV, upd]
  · simp [updV, upd, hq]
theorem so_zast (X : en_X p R s m args meth cd D tc ρ b0 x0 u0 x1 u1 y) {a n : Nat} {i : Int32} {v : Int32} {f : Nat → Int32} (hd : decode (mt_code y) pc = .ok (.bastore, 1)) (hc : c a = .inl (2, n, .inl (f))) (ha : a < x) (hi : vp_in i n) (K : en_A p l e R s m args below meth cd Q D tc ρ b0 x0 u0 x1 u1 y sc (pc + 1, lv, st, en_up c a (.inl (2, n, .inl (upd f i.toNatClampNeg (vp_nar .boolean v)))), x, u)) : en_A p l e R s m args below meth cd Q D tc ρ b0 x0 u0 x1 u1 y sc (pc, lv, .int v :: .int i :: .ref a :: st, c, x, u) := by
  intro k j H locs ls h1 h2 h3 h4 h5 h6 h7 h8 h9 h10
  show W p l e R s m args below meth cd H locs k j Q (F0 m pc ls (.int v :: .int i :: .ref (ρ a) :: st.map (en_cv ρ)))
  have hD : va_D (fun q => b0 ≤ q) (en_ws tc ρ c x) := en_ws_D X.2.2.1.1 (Nat.le_of_lt (Nat.lt_of_le_of_lt h3 X.2.2.1.2.2.1))
  have hg := en_ws_at (tc := tc) (ρ := ρ) ha hc
  refine W.zast X.1.1 X.1.2.1 (h6 a _ hg) ((X.2.1.1.2 2 _ rfl).1 n (fun j => .int (f j))) (fun q => by cases q) (by show ¬ (i < 0 ∨ (arrV _ _ _).slots.size ≤ _); rw [arrV_size]; exact hi) rfl rfl hd (fun H1 e z oq => ?_)
  refine K k j H1 _ ls h1 h2 h3 h4 (z.trans h5) (en_wsP h6 hD ha ?_ oq) (h7.put z oq (hD.2 a _ hg)) h8 h9 (en_scr ha h3 X.2.2.1.2.2.1 h10)
  show H1[ρ a]? = some (vp_cell (tc 2) _)
  rw [e, vp_cell_i, vp_cell_i, arrV_store]
  congr 2
  funext q
  by_cases hq : q = i.toNatClampNeg
  · subst hq
    simp [updV, upd, vp_nar]
    try rfl
  · simp [updV, upd, hq]
theorem so_last (X : en_X p R s m args meth cd D tc ρ b0 x0 u0 x1 u1 y) {a n : Nat} {i : Int32} {v : Int64} {f : Nat → Int64} (hd : decode (mt_code y) pc = .ok (.lastore, 1)) (hc : c a = .inl (1, n, .inr (.inl (f)))) (ha : a < x) (hi : vp_in i n) (K : en_A p l e R s m args below meth cd Q D tc ρ b0 x0 u0 x1 u1 y sc (pc + 1, lv, st, en_up c a (.inl (1, n, .inr (.inl (vp_updL f i.toNatClampNeg v)))), x, u)) : en_A p l e R s m args below meth cd Q D tc ρ b0 x0 u0 x1 u1 y sc (pc, lv, .long v :: .int i :: .ref a :: st, c, x, u) := by
  intro k j H locs ls h1 h2 h3 h4 h5 h6 h7 h8 h9 h10
  show W p l e R s m args below meth cd H locs k j Q (F0 m pc ls (.long v :: .int i :: .ref (ρ a) :: st.map (en_cv ρ)))
  have hD : va_D (fun q => b0 ≤ q) (en_ws tc ρ c x) := en_ws_D X.2.2.1.1 (Nat.le_of_lt (Nat.lt_of_le_of_lt h3 X.2.2.1.2.2.1))
  have hg := en_ws_at (tc := tc) (ρ := ρ) ha hc
  refine W.last X.1.1 X.1.2.1 (h6 a _ hg) ((X.2.1.1.2 1 _ rfl).1 n (fun j => .long (f j))) (fun q => by cases q) (by show ¬ (i < 0 ∨ (arrV _ _ _).slots.size ≤ _); rw [arrV_size]; exact hi) rfl rfl hd (fun H1 e z oq => ?_)
  refine K k j H1 _ ls h1 h2 h3 h4 (z.trans h5) (en_wsP h6 hD ha ?_ oq) (h7.put z oq (hD.2 a _ hg)) h8 h9 (en_scr ha h3 X.2.2.1.2.2.1 h10)
  show H1[ρ a]? = some (vp_cell (tc 1) _)
  rw [e, vp_cell_l, vp_cell_l, arrV_store]
  congr 2
  funext q
  by_cases hq : q = i.toNatClampNeg
  · subst hq
    simp [updV, vp_updL]
  · simp [updV, vp_updL, hq]
theorem so_get (X : en_X p R s m args meth cd D tc ρ b0 x0 u0 x1 u1 y) {n ci kf kd : Nat} {fin : Bool} {a : Nat} {fs : List Value} {v : Value} (hd : decode (mt_code y) pc = .ok (.getfield n, 3)) (hf : en_okF (mt_cls y) n (ci, kf, kd, fin)) (hc : c a = .inr (ci, fs)) (ha : a < x) (hv : fs[kf]? = some v) (K : en_A p l e R s m args below meth cd Q D tc ρ b0 x0 u0 x1 u1 y sc (pc + 3, lv, v :: st, c, x, u)) : en_A p l e R s m args below meth cd Q D tc ρ b0 x0 u0 x1 u1 y sc (pc, lv, .ref a :: st, c, x, u) := by
  intro k j H locs ls h1 h2 h3 h4 h5 h6 h7 h8 h9 h10
  show W p l e R s m args below meth cd H locs k j Q (F0 m pc ls (.ref (ρ a) :: st.map (en_cv ρ)))
  obtain ⟨⟨C, T, N⟩, hcl, hk, hlink, hwords, hnames, htys, hfin, hdecl, hkd⟩ := hf
  exact va_get (D := D) (ci := ci) (v := en_cv ρ v) (C := C) (T := T) (N := N) X.1.1 X.1.2.1 X.1.2.2.2.2 hwords X.1.2.2.2.1 X.2.1.1 h6 a (en_ws_at ha hc) hcl kf hk (X.1.2.2.2.2 _ hlink) (fun _ h9 => h9) (by rw [List.getElem?_map, hv]; rfl) hd (K k j H locs ls h1 h2 h3 h4 h5 h6 h7 h8 h9 h10)
theorem en_fk_ok {kd : Nat} {v : Value} {ty : FieldType} (hk : (kd = 0 ∧ ty = .int) ∨ (kd = 1 ∧ ((∃ n, ty = .object n) ∨ ∃ t, ty = .array t)) ∨ (kd = 2 ∧ ty = .boolean) ∨ kd = 9) (h : en_fk kd v) : narrow ty (en_cv ρ v) = en_cv ρ v ∧ fits ty (en_cv ρ v) = true := by
  cases v with
  | int v =>
    have h : kd = 0 ∨ (kd = 2 ∧ (v = 0 ∨ v = 1)) := h
    rcases hk with ⟨-, rfl⟩ | ⟨q, -⟩ | ⟨q, rfl⟩ | q
    · exact ⟨rfl, rfl⟩
    · omega
    · rcases h with h | ⟨-, h⟩
      · omega
      · rcases h with rfl | rfl <;> exact ⟨rfl, rfl⟩
    · omega
  | ref a =>
    have h : kd = 1 := h
    rcases hk with ⟨q, -⟩ | ⟨-, ⟨n, rfl⟩ | ⟨t, rfl⟩⟩ | ⟨q, -⟩ | q
    · omega
    · exact ⟨rfl, rfl⟩
    · exact ⟨rfl, rfl⟩
    · omega
    · omega
  | null =>
    have h : kd = 1 := h
    rcases hk with ⟨q, -⟩ | ⟨-, ⟨n, rfl⟩ | ⟨t, rfl⟩⟩ | ⟨q, -⟩ | q
    · omega
    · exact ⟨rfl, rfl⟩
    · exact ⟨rfl, rfl⟩
    · omega
    · omega
  | _ => exact h.elim
theorem so_put (X : en_X p R s m args meth cd D tc ρ b0 x0 u0 x1 u1 y) {n ci kf kd : Nat} {fin : Bool} {a : Nat} {fs : List Value} {v : Value} (hd : decode (mt_code y) pc = .ok (.putfield n, 3)) (hf : en_okF (mt_cls y) n (ci, kf, kd, fin)) (hc : c a = .inr (ci, fs)) (ha : a < x) (hl : kf < fs.length) (hv : en_fk kd v) (hini : fin = true → mt_init y = true) (K : en_A p l e R s m args below meth cd Q D tc ρ b0 x0 u0 x1 u1 y sc (pc + 3, lv, st, en_up c a (.inr (ci, fs.set kf v)), x, u)) : en_A p l e R s m args below meth cd Q D tc ρ b0 x0 u0 x1 u1 y sc (pc, lv, v :: .ref a :: st, c, x, u) := by
  intro k j H locs ls h1 h2 h3 h4 h5 h6 h7 h8 h9 h10
  show W p l e R s m args below meth cd H locs k j Q (F0 m pc ls (en_cv ρ v :: .ref (ρ a) :: st.map (en_cv ρ)))
  obtain ⟨⟨C, T, N⟩, hcl, hk, hlink, hwords, hnames, ⟨ty0, htys⟩, hfin, hdecl, hkd⟩ := hf
  have hts := X.1.2.2.2.2
  have hK := X.2.1.1
  have hown := X.1.2.2.2.1
  have hD : va_D (fun q => b0 ≤ q) (en_ws tc ρ c x) := en_ws_D X.2.2.1.1 (Nat.le_of_lt (Nat.lt_of_le_of_lt h3 X.2.2.1.2.2.1))
  have hg := en_ws_at (tc := tc) (ρ := ρ) ha hc
  have hap := va_apart (own := mt_cn (mt_cls y)) hts hwords ty0 htys hnames hK hcl
  obtain ⟨r, e1, cell, q1, q2, q3, q4⟩ := h6 a _ hg
  have hr : r = (C, T, N) := Option.some.inj (e1.symm.trans hcl)
  subst hr
  obtain ⟨hS, hfc, kC, hkC, hkind⟩ := hK.1 ci _ hcl
  obtain ⟨cf, kfc, fi, f, hi, hsl⟩ := hS kf hk
  have hlay := hts _ (hwords _ (u_in_lay hk))
  have hst := (u_facts hfc hkC (u_lays hts hwords hk) hi).1
  obtain ⟨hn, hfit⟩ := en_fk_ok (ρ := ρ) (hkd ty0 htys) hv
  have hlm : kf < (fs.map (en_cv ρ)).length := by rw [List.length_map]; exact hl
  have fin2 : ∀ (H' : Heap), H'[ρ a]? = some (cell.setSlot (D.2 ci kf) (en_cv ρ v)) → H'.size = H.size → (∀ q, q ≠ ρ a → H'[q]? = H[q]?) → ∀ kk, W p l e R s m args below meth cd H' (locs ++ [⟨ρ a, kk⟩]) k j Q (F0 m (pc + 3) ls (st.map (en_cv ρ))) := by
    intro H' e1 e2 e3 kk
    refine K k j H' _ ls h1 h2 h3 h4 (e2.trans h5) (en_wsP h6 hD ha ?_ e3) (h7.put e2 e3 (hD.2 a _ hg)) h8 h9 (en_scr ha h3 X.2.2.1.2.2.1 h10)
    show va_at D vwCl (ρ a, .inr (ci, (fs.set kf v).map (en_cv ρ))) H'
    rw [List.map_set]
    exact ⟨_, hcl, t_OB.to (V := updV (vp_V (fs.map (en_cv ρ))) kf (en_cv ρ v)) ⟨_, e1, q2, q3, t_set q4 hap hk (en_cv ρ v)⟩ (fun j _ => vp_updV_set hlm (en_cv ρ v) j)⟩
  cases hfb : (T kf).2.2.2 with
  | false =>
    unfold u_lay at hlay
    rw [if_neg (by rw [hfb]; decide)] at hlay
    have h6' := u_store hfc hkC hkind hlay hi (htys kf hk) hn hfit
    refine W.putK X.1.1 X.1.2.1 (f := f) ⟨hown, hts _ hlink, ⟨_, _, _, hi⟩, hst⟩ (by rw [q2]; exact h6') q1 q3 (by rw [hsl]; exact k2_hasslot (q4 kf hk)) rfl rfl hd (fun H' e1 e2 e3 => ?_)
    rw [hsl] at e1
    exact fin2 H' e1 e2 e3 _
  | true =>
    unfold u_lay at hlay
    rw [if_pos hfb] at hlay
    have hfin' : fin = true := hfin.symm.trans hfb
    have hcf : m.cls = cf := by
      obtain ⟨_, _, c', _, _, _, -, -, hf', -, -, -, hown2, -⟩ := Cond.laysFinal_spec hlay
      have e1 : c' = cf := by have := hi.symm.trans hf'; simp at this; exact this.1.symm
      rw [hdecl hfin' (by intro z; have z : kd = 9 := z; subst z; cases v <;> first | exact hv | exact absurd hv (by decide) | (rcases hv with hv | ⟨hv, -⟩ <;> exact absurd hv (by decide)))] at hown2
      rw [← e1]; exact Option.some.inj (hown.symm.trans hown2)
    have h6' := u_fits hfc hkC hkind (Or.inr hlay) hi (htys kf hk) hn hfit
    refine W.putFinK X.1.1 X.1.2.1 hown (hts _ hlink) hi hst hcf (X.2.2.2 (hini hfin')) (by rw [q2]; exact h6') q1 q3 (by rw [hsl]; exact k2_hasslot (q4 kf hk)) rfl rfl hd (fun H' e1 e2 e3 => ?_)
    rw [hsl] at e1
    exact fin2 H' e1 e2 e3 _
theorem en_pushP {H H1 : Heap} {en : en_C} (hP : va_P D vwCl (en_ws tc ρ c x) H) (hρ : ρ x = H.size) (o1 : ∀ q, q < H.size → H1[q]? = H[q]?) (hn : va_at D vwCl (ρ x, en_cE tc ρ en) H1) : va_P D vwCl (en_ws tc ρ (en_up c x en) (x + 1)) H1 := by
  rw [← en_ws_push]
  refine (hP.kept (fun k q hq => o1 q.1 ((hP k q hq).lt))).app (fun k q hq => ?_)
  have hz : k < 1 := (List.getElem?_eq_some_iff.mp hq).1
  rw [show k = 0 by omega] at hq
  cases hq
  exact hn
theorem so_new (X : en_X p R s m args meth cd D tc ρ b0 x0 u0 x1 u1 y) {n ci : Nat} {fs : List Value} (hd : decode (mt_code y) pc = .ok (.new n, 3)) (hf : en_okN (mt_cls y) n (ci, fs)) (hx : x + 1 ≤ x1) (hu : u + fs.length ≤ u1) (K : en_A p l e R s m args below meth cd Q D tc ρ b0 x0 u0 x1 u1 y sc (pc + 3, lv, .ref x :: st, en_up c x (.inr (ci, fs)), x + 1, u + fs.length)) : en_A p l e R s m args below meth cd Q D tc ρ b0 x0 u0 x1 u1 y sc (pc, lv, st, c, x, u) := by
  intro k j H locs ls h1 h2 h3 h4 h5 h6 h7 h8 h9 h10
  show W p l e R s m args below meth cd H locs k j Q (F0 m pc ls (st.map (en_cv ρ)))
  obtain ⟨⟨C, T, N⟩, hcl, hlink, hinst, hini, hwords, ⟨ty0, htys⟩, hN, hfs, hnr⟩ := hf
  have hts := X.1.2.2.2.2
  have hKn := X.2.1.1.1 ci _ hcl
  have hx' : x = x0 + k := h1
  have hu' : u = u0 + j := h2
  have hρ : ρ x = H.size := by rw [h5]; exact X.2.2.1.1 x (by have := X.2.2.1.2.2.1; omega)
  have hNN : fs.length = N := hN
  refine W.newcK X.1.1 X.1.2.1 X.1.2.2.2.1 (hts _ hlink) (hts _ hinst) (hts _ hini) rfl hd (by have := X.2.2.1.2.2.2.1; omega) (by have := X.2.2.1.2.2.2.2; show j + N ≤ _; omega) hKn.2.1 rfl (fun H1 kC hkC e1 z1 o1 => ?_)
  have e2 : H1.size = b0 + (x + 1) := by rw [z1, h5]; exact Nat.add_assoc _ _ _
  have hcE : en_cE tc ρ (.inr (ci, fs)) = .inr (ci, fs) := by
    show Sum.inr (ci, fs.map (en_cv ρ)) = _
    rw [show fs.map (en_cv ρ) = fs from (List.map_congr_left (fun v hv => hnr ρ v hv)).trans (List.map_id fs)]
  have hP1 := en_pushP (en := .inr (ci, fs)) h6 hρ o1 (by
    rw [hcE, hρ]
    exact ⟨_, hcl, (u_born ty0 hts hwords hKn hkC e1 htys).to (fun q hq => hfs ty0 htys q hq)⟩)
  rw [← hNN]
  have := K (k + 1) (j + fs.length) H1 locs ls (by show x + 1 = _; omega) (by show u + fs.length = _; omega) hx hu e2 hP1 ⟨Nat.le_trans h7.1 (by omega), fun q g1 g2 => (o1 q (Nat.lt_of_lt_of_le g1 h7.1)).trans (h7.2.1 q g1 g2), h7.2.2⟩ h8 h9 (fun q => (en_up_n (by have := X.2.2.1.2.2.1; omega)).trans (h10 q))
  rw [show List.map (en_cv ρ) (Value.ref x :: st) = .ref (ρ x) :: st.map (en_cv ρ) from rfl, hρ] at this
  exact this
theorem so_newa (X : en_X p R s m args meth cd D tc ρ b0 x0 u0 x1 u1 y) {ty : ArrayType} {t : Nat} {n : Int32} (hd : decode (mt_code y) pc = .ok (.newarray ty, 2)) (hty : en_at ty = some t) (hw : Cond.arrayClass (newarray.typeOf ty) ∈ en_T0) (hn : ¬ n < 0) (hN : n.toNatClampNeg ≤ 1000000) (hx : x + 1 ≤ x1) (hu : u + n.toNatClampNeg ≤ u1) (K : en_A p l e R s m args below meth cd Q D tc ρ b0 x0 u0 x1 u1 y sc (pc + 2, lv, .ref x :: st, en_up c x (en_z t n.toNatClampNeg), x + 1, u + n.toNatClampNeg)) : en_A p l e R s m args below meth cd Q D tc ρ b0 x0 u0 x1 u1 y sc (pc, lv, .int n :: st, c, x, u) := by
  intro k j H locs ls h1 h2 h3 h4 h5 h6 h7 h8 h9 h10
  show W p l e R s m args below meth cd H locs k j Q (F0 m pc ls (.int n :: st.map (en_cv ρ)))
  have hts := X.1.2.2.2.2
  have hx' : x = x0 + k := h1
  have hu' : u = u0 + j := h2
  have hρ : ρ x = H.size := by rw [h5]; exact X.2.2.1.1 x (by have := X.2.2.1.2.2.1; omega)
  have hcb : componentBytes (newarray.typeOf ty) ≤ 8 := by cases ty <;> decide
  refine va_newaK X.1.1 X.1.2.1 (hts _ hw) rfl hd rfl hn rfl (Nat.le_trans (Nat.mul_le_mul hN hcb) (by decide)) (by have := X.2.2.1.2.2.2.1; omega) (by have := X.2.2.1.2.2.2.2; omega) rfl (fun H1 cA e1 z1 o1 hAr hNm => ?_)
  have e2 : H1.size = b0 + (x + 1) := by rw [z1, h5]; exact Nat.add_assoc _ _ _
  have hcA : cA = tc t ∧ arrV (tc t) n.toNatClampNeg (fun _ => defaultValue (newarray.typeOf ty)) = vp_cell (tc t) ((n.toNatClampNeg, if t = 1 then .inr (.inl (fun _ => 0)) else .inl (fun _ => 0)) : vp_A) := by
    have hK2 := X.2.1.1.2
    cases ty <;> cases hty
    · have h := (hK2 2 _ rfl).2
      exact ⟨Option.some.inj (hNm.symm.trans h), rfl⟩
    · have h := (hK2 0 _ rfl).2
      exact ⟨Option.some.inj (hNm.symm.trans h), rfl⟩
    · have h := (hK2 1 _ rfl).2
      exact ⟨Option.some.inj (hNm.symm.trans h), rfl⟩
  have hP1 := en_pushP (en := en_z t n.toNatClampNeg) h6 hρ o1 (by
    show H1[ρ x]? = some (vp_cell (tc t) _)
    rw [hρ, e1, hcA.1, hcA.2])
  have := K (k + 1) (j + n.toNatClampNeg) H1 locs ls (by show x + 1 = _; omega) (by show u + n.toNatClampNeg = _; omega) hx hu e2 hP1 ⟨Nat.le_trans h7.1 (by omega), fun q g1 g2 => (o1 q (Nat.lt_of_lt_of_le g1 h7.1)).trans (h7.2.1 q g1 g2), h7.2.2⟩ h8 h9 (fun q => (en_up_n (by have := X.2.2.1.2.2.1; omega)).trans (h10 q))
  rw [show List.map (en_cv ρ) (Value.ref x :: st) = .ref (ρ x) :: st.map (en_cv ρ) from rfl, hρ] at this
  exact this
theorem en_sum {r : List Value} (h : r.length ≤ 4) : ((r.map (en_cv ρ)).map fun v => v.category).sum ≤ 8 := by
  have key : ∀ (r : List Value), ((r.map (en_cv ρ)).map fun v => v.category).sum ≤ 2 * r.length := by
    intro r
    induction r with
    | nil => exact Nat.le_refl _
    | cons a r ih =>
      have ha : (en_cv ρ a).category ≤ 2 := by rcases lv_cat (en_cv ρ a) with h | h <;> omega
      simp only [List.map_cons, List.sum_cons, List.length_cons]
      omega
  have := key r
  omega
theorem so_max (X : en_X p R s m args meth cd D tc ρ b0 x0 u0 x1 u1 y) (hfr : 1 ≤ R.frames) (hlo : 40 ≤ R.locals) {n : Nat} {a b : Int32} (hd : decode (mt_code y) pc = .ok (.invokestatic n, 3)) (hw : Cond.methodLink (mt_cn (mt_cls y)) n Lib.Math.max.name ∈ en_T0 ∧ Cond.static Lib.Math.max.name ∈ en_T0 ∧ Cond.initialized "java/lang/Math" ∈ en_T0 ∧ Cond.code Lib.Math.max.name Lib.Math.max.code 2 (some .int) ∈ en_T0) (hr : st.length ≤ 4) (K : en_A p l e R s m args below meth cd Q D tc ρ b0 x0 u0 x1 u1 y sc (pc + 3, lv, .int (if a < b then b else a) :: st, c, x, u)) : en_A p l e R s m args below meth cd Q D tc ρ b0 x0 u0 x1 u1 y sc (pc, lv, .int b :: .int a :: st, c, x, u) := by
  intro k j H locs ls h1 h2 h3 h4 h5 h6 h7 h8 h9 h10
  show W p l e R s m args below meth cd H locs k j Q (F0 m pc ls (.int b :: .int a :: st.map (en_cv ρ)))
  have hts := X.1.2.2.2.2
  have hx' : x = x0 + k := h1
  have hu' : u = u0 + j := h2
  have hxx : x ≤ x1 := h3
  have huu : u ≤ u1 := h4
  have hsm := en_sum (ρ := ρ) hr
  exact va_mmax X.1.1 X.1.2.1 (by rw [X.1.2.2.1, h8.1]; exact h9.symm) X.1.2.2.2.1 (hts _ hw.1) (hts _ hw.2.1) (hts _ hw.2.2.1) (hts _ hw.2.2.2) hfr (by omega) (by have := X.2.2.1.2.2.2.1; omega) (by have := X.2.2.1.2.2.2.2; omega) hd (K k j H locs ls h1 h2 h3 h4 h5 h6 h7 h8 h9 h10)
theorem so_min (X : en_X p R s m args meth cd D tc ρ b0 x0 u0 x1 u1 y) (hfr : 1 ≤ R.frames) (hlo : 40 ≤ R.locals) {n : Nat} {a b : Int32} (hd : decode (mt_code y) pc = .ok (.invokestatic n, 3)) (hw : Cond.methodLink (mt_cn (mt_cls y)) n Lib.Math.min.name ∈ en_T0 ∧ Cond.static Lib.Math.min.name ∈ en_T0 ∧ Cond.initialized "java/lang/Math" ∈ en_T0 ∧ Cond.code Lib.Math.min.name Lib.Math.min.code 2 (some .int) ∈ en_T0) (hr : st.length ≤ 4) (K : en_A p l e R s m args below meth cd Q D tc ρ b0 x0 u0 x1 u1 y sc (pc + 3, lv, .int (if b < a then b else a) :: st, c, x, u)) : en_A p l e R s m args below meth cd Q D tc ρ b0 x0 u0 x1 u1 y sc (pc, lv, .int b :: .int a :: st, c, x, u) := by
  intro k j H locs ls h1 h2 h3 h4 h5 h6 h7 h8 h9 h10
  show W p l e R s m args below meth cd H locs k j Q (F0 m pc ls (.int b :: .int a :: st.map (en_cv ρ)))
  have hts := X.1.2.2.2.2
  have hx' : x = x0 + k := h1
  have hu' : u = u0 + j := h2
  have hxx : x ≤ x1 := h3
  have huu : u ≤ u1 := h4
  have hsm := en_sum (ρ := ρ) hr
  exact va_mmin X.1.1 X.1.2.1 (by rw [X.1.2.2.1, h8.1]; exact h9.symm) X.1.2.2.2.1 (hts _ hw.1) (hts _ hw.2.1) (hts _ hw.2.2.1) (hts _ hw.2.2.2) hfr (by omega) (by have := X.2.2.1.2.2.2.1; omega) (by have := X.2.2.1.2.2.2.2; omega) hd (K k j H locs ls h1 h2 h3 h4 h5 h6 h7 h8 h9 h10)
theorem so_obj (X : en_X p R s m args meth cd D tc ρ b0 x0 u0 x1 u1 y) (hfr : 1 ≤ R.frames) (hlo : 40 ≤ R.locals) {n : Nat} {a : Nat} (hd : decode (mt_code y) pc = .ok (.invokespecial n, 3)) (hw : Cond.methodLink (mt_cn (mt_cls y)) n Lib.objectInit ∈ en_T0 ∧ Cond.instanceMethod Lib.objectInit ∈ en_T0 ∧ Cond.code Lib.objectInit ⟨#[0xb1]⟩ 1 none ∈ en_T0) (hr : st.length ≤ 4) (K : en_A p l e R s m args below meth cd Q D tc ρ b0 x0 u0 x1 u1 y sc (pc + 3, lv, st, c, x, u)) : en_A p l e R s m args below meth cd Q D tc ρ b0 x0 u0 x1 u1 y sc (pc, lv, .ref a :: st, c, x, u) := by
  intro k j H locs ls h1 h2 h3 h4 h5 h6 h7 h8 h9 h10
  have hts := X.1.2.2.2.2
  have hsm := en_sum (ρ := ρ) hr
  refine W.objInit X.1.1 X.1.2.1 X.1.2.2.2.1 (hts _ hw.1) (hts _ hw.2.1) (hts _ hw.2.2) rfl (by rw [X.1.2.2.1]; exact h8.1.trans h9) (a := ρ a) (rest := st.map (en_cv ρ)) rfl hd hfr (by show 2 * 0 + _ + 12 ≤ _; omega) ?_
  exact (K k j H locs ls h1 h2 h3 h4 h5 h6 h7 h8 h9 h10)
theorem so_copy (X : en_X p R s m args meth cd D tc ρ b0 x0 u0 x1 u1 y) (hfr : 1 ≤ R.frames) (hlo : 40 ≤ R.locals) {i a0 a1 n0 n1 : Nat} {f g : Nat → Int32} {sp dp n : Int32} (hd : decode (mt_code y) pc = .ok (.invokestatic i, 3)) (hw : Cond.methodLink (mt_cn (mt_cls y)) i arraycopyName ∈ en_T0 ∧ Cond.native arraycopyName ∈ en_T0 ∧ Cond.static arraycopyName ∈ en_T0 ∧ Cond.initialized "java/lang/System" ∈ en_T0) (hc0 : c a0 = .inl (0, n0, .inl f)) (hc1 : c a1 = .inl (0, n1, .inl g)) (ha0 : a0 < x) (ha1 : a1 < x) (hr : st.length ≤ 4) (g1 : ¬ sp < 0) (g2 : ¬ dp < 0) (g3 : ¬ n < 0) (g4 : sp.toNatClampNeg + n.toNatClampNeg ≤ n0) (g5 : dp.toNatClampNeg + n.toNatClampNeg ≤ n1) (K : en_A p l e R s m args below meth cd Q D tc ρ b0 x0 u0 x1 u1 y sc (pc + 3, lv, st, en_up c a1 (.inl (0, n1, .inl (va_cpy f g sp.toNatClampNeg dp.toNatClampNeg n.toNatClampNeg))), x, u)) : en_A p l e R s m args below meth cd Q D tc ρ b0 x0 u0 x1 u1 y sc (pc, lv, .int n :: .int dp :: .ref a1 :: .int sp :: .ref a0 :: st, c, x, u) := by
  intro k j H locs ls h1 h2 h3 h4 h5 h6 h7 h8 h9 h10
  show W p l e R s m args below meth cd H locs k j Q (F0 m pc ls (.int n :: .int dp :: .ref (ρ a1) :: .int sp :: .ref (ρ a0) :: st.map (en_cv ρ)))
  have hts := X.1.2.2.2.2
  have hsm := en_sum (ρ := ρ) hr
  have hD : va_D (fun q => b0 ≤ q) (en_ws tc ρ c x) := en_ws_D X.2.2.1.1 (Nat.le_of_lt (Nat.lt_of_le_of_lt h3 X.2.2.1.2.2.1))
  have hg0 := en_ws_at (tc := tc) (ρ := ρ) ha0 hc0
  have hg1 := en_ws_at (tc := tc) (ρ := ρ) ha1 hc1
  have nn : ∀ z : Int32, ¬ z < 0 → z.toInt = (z.toNatClampNeg : Int) := by
    intro z hz
    have hz0 : (0 : Int) ≤ z.toInt := by
      have := Int32.not_lt.mp hz
      simpa using Int32.le_iff_toInt_le.mp this
    show z.toInt = ((z.toInt.toNat : Nat) : Int)
    omega
  have hnw : nativeFrameWords "java/lang/System" "arraycopy" 5 ≤ 7 := by decide +kernel
  intro T hT XT
  have k0 : H[ρ a0]? = some (vp_cell (tc 0) (n0, .inl f)) := h6 a0 _ hg0
  have k1 : H[ρ a1]? = some (vp_cell (tc 0) (n1, .inl g)) := h6 a1 _ hg1
  obtain ⟨-, cl0, hk0, cm0, hkk0⟩ := (X.2.1.1.2 0 _ rfl).1 n0 (fun j => .int (f j))
  obtain ⟨-, cl1, hk1, cm1, hkk1⟩ := (X.2.1.1.2 0 _ rfl).1 n1 (fun j => .int (g j))
  obtain ⟨vm', X', step⟩ := XT.arraycopy X.1.1 X.1.2.2.2.1 (hts _ hw.1) (hts _ hw.2.1) (hts _ hw.2.2.1) (hts _ hw.2.2.2) (src := ρ a0) (dst := ρ a1) (cs := vp_cell (tc 0) (n0, .inl f)) (cd := vp_cell (tc 0) (n1, .inl g)) (srcPos := sp) (destPos := dp) (n := n) (by rw [hT]; exact k0) (by rw [hT]; exact k1)
    (fun _ h => by cases h) (fun _ h => by cases h) (fun h => by cases h) (fun h => by cases h) hk0 hk1 hkk0 hkk1 (by simp [refKind]) g1 g2 g3
    (by rw [nn sp g1, nn n g3]; show ¬ _ > ((arrV (tc 0) n0 (fun j => .int (f j))).slots.size : Int); rw [arrV_size]; omega)
    (by rw [nn dp g2, nn n g3]; show ¬ _ > ((arrV (tc 0) n1 (fun j => .int (g j))).slots.size : Int); rw [arrV_size]; omega)
    (fun vm₁ _ i hi => by
      have e : (vp_cell (tc 0) (n0, .inl f)).slots.getD (sp.toNatClampNeg + i) .null = .int (f (sp.toNatClampNeg + i)) := by
        show (arrV (tc 0) n0 (fun j => .int (f j))).slots.getD _ _ = _
        rw [Array.getD_eq_getD_getElem?, arrV_read _ _ (by omega)]
        rfl
      refine ⟨?_, ?_⟩
      · rw [e]
        rfl
      · rw [e]
        exact trivial)
    (g := F0 m pc ls (.int n :: .int dp :: .ref (ρ a1) :: .int sp :: .ref (ρ a0) :: st.map (en_cv ρ))) rfl (by rw [X.1.2.2.1]; exact h8.1.trans h9) (rest := st.map (en_cv ρ)) rfl (by rw [X.1.2.1]; exact hd) hfr (by show 2 * 0 + _ + _ ≤ _; omega)
  have e1 : copied (vp_cell (tc 0) (n0, .inl f)) (vp_cell (tc 0) (n1, .inl g)) sp dp n = vp_cell (tc 0) (n1, .inl (va_cpy f g sp.toNatClampNeg dp.toNatClampNeg n.toNatClampNeg)) := va_copied (fun z => .int z) (tc 0) (tc 0) f g g4
  rw [e1] at X' step
  have hl : ρ a1 < H.size := (Array.getElem?_eq_some_iff.mp k1).1
  have hheap : ((T.setVm vm').setCell (ρ a1) (vp_cell (tc 0) (n1, .inl (va_cpy f g sp.toNatClampNeg dp.toNatClampNeg n.toNatClampNeg)))).heap = H.setIfInBounds (ρ a1) (vp_cell (tc 0) (n1, .inl (va_cpy f g sp.toNatClampNeg dp.toNatClampNeg n.toNatClampNeg))) := by rw [← hT]; rfl
  have oq : ∀ q : Nat, q ≠ ρ a1 → (H.setIfInBounds (ρ a1) (vp_cell (tc 0) (n1, .inl (va_cpy f g sp.toNatClampNeg dp.toNatClampNeg n.toNatClampNeg))))[q]? = H[q]? := fun q hq => by simp [Array.getElem?_setIfInBounds, Ne.symm hq]
  obtain ⟨t, z1, z2⟩ := K k j _ _ ls h1 h2 h3 h4 (by rw [Array.size_setIfInBounds]; exact h5) (en_wsP (H1 := H.setIfInBounds (ρ a1) (vp_cell (tc 0) (n1, .inl (va_cpy f g sp.toNatClampNeg dp.toNatClampNeg n.toNatClampNeg)))) h6 hD ha1 (show (H.setIfInBounds (ρ a1) _)[ρ a1]? = some _ by simp [Array.getElem?_setIfInBounds, hl, en_cE]) oq) ⟨by rw [Array.size_setIfInBounds]; exact h7.1, fun q y1 y2 => by
      rw [oq q (fun e => y2 (by rw [e]; exact hD.2 a1 _ hg1))]
      exact h7.2.1 q y1 y2, fun q hq => by
      rcases List.mem_append.mp hq with h | h
      · exact h7.2.2 q h
      · obtain ⟨z, -, hz⟩ := List.mem_map.mp h
        rw [← hz]
        exact hD.2 a1 _ hg1⟩ h8 h9 (en_scr ha1 h3 X.2.2.1.2.2.1 h10) _ hheap X'
  exact ⟨t, step t z1, z2⟩
/-- behind a call -/
theorem en_back {H : Heap} {locs : List Loc} {k j mc ms : Nat} {ls : Array Slot} {st0 rest : List Value} {a : Array Value} {v : Option Value} {c' : en_H} {x' : Nat} (hr : va_Run p l e R s m args below meth cd H locs k j mc ms (F0 m pc ls st0) rest (en_Qc D tc ρ b0 v c' x' a) (fun q => b0 ≤ q)) (hS : va_S (fun q => b0 ≤ q) s.heap H locs)
    (kk : ∀ (H1 : Heap) (locs1 : List Loc), H1.size = b0 + x' → va_P D vwCl (en_ws tc ρ c' x') H1 → va_S (fun q => b0 ≤ q) s.heap H1 locs1 → W p l e R s m args below meth cd H1 locs1 (k + mc) (j + ms) Q (F0 m (pc + 3) ls ((v.map (en_cv ρ)).toList ++ rest))) : W p l e R s m args below meth cd H locs k j Q (F0 m pc ls st0) := by
  intro T hT XT
  obtain ⟨v', st₀, t, T', L, h0, X', hL, e1, e2, ⟨hv, hz1, hp, hz, hk⟩, stp⟩ := hr T hT XT
  have hv : v' = v.map (en_cv ρ) := Outcome.returned.inj hv
  subst hv
  rw [h0] at hz hk
  obtain ⟨t2, a1, b1⟩ := kk T'.heap (locs ++ L) (by rw [e1]; exact hz1) (by rw [e1]; exact hp)
    ⟨Nat.le_trans hS.1 (by rw [e1]; exact hz), fun q g1 g2 => by rw [e1, hk q (Nat.lt_of_lt_of_le g1 hS.1) g2]; exact hS.2.1 q g1 g2, fun q hq => by
      rcases List.mem_append.mp hq with h | h
      · exact hS.2.2 q h
      · exact hL q h⟩ T' rfl X'
  exact ⟨t2, stp t2 a1, b1⟩
theorem en_goodT : ∀ w ∈ en_T0, (w.onTables && w.keeps) = true ∨ ∃ ty, w = .arrayClass ty := fun w hw => good_of_word (List.mem_filter.mp hw).2
theorem en_goodM {y' : Nat} (h : Cond.code (mt_name y') (mt_code y') (mt_nl y') (mt_ret y') ∈ en_T0) : GoodIn en_T0 (en_mw y') := by
  intro w hw
  rcases List.mem_cons.mp hw with rfl | hw
  · exact ⟨h, en_goodT _ h⟩
  · exact ⟨hw, en_goodT _ hw⟩
theorem en_callB (X : en_X p R s m args meth cd D tc ρ b0 x0 u0 x1 u1 y) {d mc ms n k y' : Nat} (hY : en_okY y' k) (hR : d + 1 ≤ R.frames ∧ 40 * (d + 1) ≤ R.locals) (hl : Cond.methodLink (mt_cn (mt_cls y)) n (mt_name y') ∈ en_T0) : CallB R s args (mt_cn (mt_cls y)) n (mt_name y') (mt_code y') (mt_nl y') (mt_ret y') (en_mw y') (en_room d mc ms) mc ms k := by
  have hts := X.1.2.2.2.2
  exact callB_of k hts (en_goodM hY.1) rfl rfl rfl (hts _ hY.2.1) (hts _ hl) ⟨hY.2.2.1.1, hY.2.2.1.2, hY.2.2.2.1⟩ ⟨hR.1, by show 8 + (mt_nl y' + 11) + 40 * d ≤ _; have := hY.2.2.2.2; omega⟩
theorem en_pre (X : en_X p R s m args meth cd D tc ρ b0 x0 u0 x1 u1 y) {H : Heap} {As : List Value} (h5 : H.size = b0 + x) (h6 : va_P D vwCl (en_ws tc ρ c x) H) : PreS s H (en_Pc D tc ρ b0 As c x) (As.map (en_cv ρ)) :=
  ⟨en_blind, fun U hU hW => ⟨rfl, by rw [hU]; exact h5, by rw [hU]; exact h6, va_K.moved hW.alike X.2.1.1, fun q hq => va_Nw.warmM hW (X.2.1.2 q hq)⟩⟩
theorem so_virt (X : en_X p R s m args meth cd D tc ρ b0 x0 u0 x1 u1 y) {d n y' na ci a : Nat} {fs : List Value} {As r : List Value} {v : Option Value} {c' : en_H} {x' u' : Nat} (hR : d + 1 ≤ R.frames ∧ 40 * (d + 1) ≤ R.locals) (hd : decode (mt_code y) pc = .ok (.invokevirtual n, 3)) (hM : en_okM (mt_cls y) n (0, y', na, ci)) (hst : st = As.reverse ++ .ref a :: r) (hAs : As.length = na) (hc : c a = .inr (ci, fs)) (ha : a < x) (hr : r.length ≤ 4) (hm : en_M l D tc ρ b0 d y' (.ref a :: As) c x u v c' x' u') (ho : en_ok c x u c' x' u') (hx : x' ≤ x1) (hu : u' ≤ u1) (K : en_A p l e R s m args below meth cd Q D tc ρ b0 x0 u0 x1 u1 y sc (pc + 3, lv, v.toList ++ r, c', x', u')) : en_A p l e R s m args below meth cd Q D tc ρ b0 x0 u0 x1 u1 y sc (pc, lv, st, c, x, u) := by
  intro k j H locs ls h1 h2 h3 h4 h5 h6 h7 h8 h9 h10
  have hts := X.1.2.2.2.2
  have hx' : x = x0 + k := h1
  have hu' : u = u0 + j := h2
  have hox := ho.1
  have hou := ho.2.1
  have hsm := en_sum (ρ := ρ) hr
  obtain ⟨⟨q, hq, hqc⟩, hl, hi, hse, hY⟩ := hM.1 rfl
  have hrecv := va_recv X.2.1.1 h6 hq (en_ws_at (tc := tc) (ρ := ρ) ha hc)
  rw [hqc] at hrecv
  have hrun := va_runV (As := As.map (en_cv ρ)) (rest := r.map (en_cv ρ)) (b := ρ a) (C := (mt_name y').cls) (n := na) (H := H) (locs := locs) (cells := k) (slots := j) (e := e) (below := below) (meth := meth) (g := F0 m pc ls (st.map (en_cv ρ))) ⟨X.1.1, X.1.2.1, X.1.2.2.1, X.1.2.2.2.1, hts⟩ hm ⟨en_callB X hY hR hl, hts _ hi, hts _ hse⟩ ⟨en_blind, hrecv, (en_pre X (As := .ref a :: As) h5 h6).2⟩ rfl (by rw [List.length_map]; exact hAs) (h8.1.trans h9) (by show st.map (en_cv ρ) = _; rw [hst, List.map_append, List.map_reverse]; rfl) (by show 2 * 0 + _ ≤ 8; omega) hd ⟨by have := X.2.2.1.2.2.2.1; omega, by have := X.2.2.1.2.2.2.2; omega⟩
  refine en_back hrun h7 (fun H1 locs1 e1 e2 e3 => ?_)
  have := K (k + (x' - x)) (j + (u' - u)) H1 locs1 ls (by show x' = _; omega) (by show u' = _; omega) hx hu e1 e2 e3 h8 h9 (fun q => (ho.2.2 en_S (by have := X.2.2.1.2.2.1; omega)).trans (h10 q))
  rw [show (v.map (en_cv ρ)).toList ++ r.map (en_cv ρ) = (v.toList ++ r).map (en_cv ρ) by cases v <;> rfl]
  exact this
theorem so_stat (X : en_X p R s m args meth cd D tc ρ b0 x0 u0 x1 u1 y) {d n y' na ci a : Nat} {fs : List Value} {As r : List Value} {v : Option Value} {c' : en_H} {x' u' : Nat} (hR : d + 1 ≤ R.frames ∧ 40 * (d + 1) ≤ R.locals) (hd : decode (mt_code y) pc = .ok (.invokestatic n, 3)) (hM : en_okM (mt_cls y) n (1, y', na, ci)) (hst : st = As.reverse ++ r) (hAs : As.length = na) (hr : r.length ≤ 4) (hm : en_M l D tc ρ b0 d y' As c x u v c' x' u') (ho : en_ok c x u c' x' u') (hx : x' ≤ x1) (hu : u' ≤ u1) (K : en_A p l e R s m args below meth cd Q D tc ρ b0 x0 u0 x1 u1 y sc (pc + 3, lv, v.toList ++ r, c', x', u')) : en_A p l e R s m args below meth cd Q D tc ρ b0 x0 u0 x1 u1 y sc (pc, lv, st, c, x, u) := by
  intro k j H locs ls h1 h2 h3 h4 h5 h6 h7 h8 h9 h10
  have hts := X.1.2.2.2.2
  have hx' : x = x0 + k := h1
  have hu' : u = u0 + j := h2
  have hox := ho.1
  have hou := ho.2.1
  have hsm := en_sum (ρ := ρ) hr
  obtain ⟨hl, hi, hY⟩ := hM.2.1 rfl
  have hrun := va_runS (As := As.map (en_cv ρ)) (rest := r.map (en_cv ρ)) (n := na) (H := H) (locs := locs) (cells := k) (slots := j) (e := e) (below := below) (meth := meth) (g := F0 m pc ls (st.map (en_cv ρ))) ⟨X.1.1, X.1.2.1, X.1.2.2.1, X.1.2.2.2.1, hts⟩ hm ⟨en_callB X hY hR hl, hts _ hi⟩ (en_pre X (As := As) h5 h6) rfl (by rw [List.length_map]; exact hAs) (h8.1.trans h9) (by show st.map (en_cv ρ) = _; rw [hst, List.map_append, List.map_reverse]) (by show 2 * 0 + _ ≤ 8; omega) hd ⟨by have := X.2.2.1.2.2.2.1; omega, by have := X.2.2.1.2.2.2.2; omega⟩
  refine en_back hrun h7 (fun H1 locs1 e1 e2 e3 => ?_)
  have := K (k + (x' - x)) (j + (u' - u)) H1 locs1 ls (by show x' = _; omega) (by show u' = _; omega) hx hu e1 e2 e3 h8 h9 (fun q => (ho.2.2 en_S (by have := X.2.2.1.2.2.1; omega)).trans (h10 q))
  rw [show (v.map (en_cv ρ)).toList ++ r.map (en_cv ρ) = (v.toList ++ r).map (en_cv ρ) by cases v <;> rfl]
  exact this
theorem so_init (X : en_X p R s m args meth cd D tc ρ b0 x0 u0 x1 u1 y) {d n y' na ci a : Nat} {fs : List Value} {As r : List Value} {v : Option Value} {c' : en_H} {x' u' : Nat} (hR : d + 1 ≤ R.frames ∧ 40 * (d + 1) ≤ R.locals) (hd : decode (mt_code y) pc = .ok (.invokespecial n, 3)) (hM : en_okM (mt_cls y) n (2, y', na, ci)) (hst : st = As.reverse ++ .ref a :: r) (hAs : As.length = na) (hr : r.length ≤ 4) (hm : en_M l D tc ρ b0 d y' (.ref a :: As) c x u v c' x' u') (ho : en_ok c x u c' x' u') (hx : x' ≤ x1) (hu : u' ≤ u1) (K : en_A p l e R s m args below meth cd Q D tc ρ b0 x0 u0 x1 u1 y sc (pc + 3, lv, v.toList ++ r, c', x', u')) : en_A p l e R s m args below meth cd Q D tc ρ b0 x0 u0 x1 u1 y sc (pc, lv, st, c, x, u) := by
  intro k j H locs ls h1 h2 h3 h4 h5 h6 h7 h8 h9 h10
  have hts := X.1.2.2.2.2
  have hx' : x = x0 + k := h1
  have hu' : u = u0 + j := h2
  have hox := ho.1
  have hou := ho.2.1
  have hsm := en_sum (ρ := ρ) hr
  obtain ⟨hl, hi, hnm, hrt, hY⟩ := hM.2.2.1 rfl
  have hB := en_callB (mc := x' - x) (ms := u' - u) X hY hR hl
  rw [hrt] at hB
  have hrun := va_runI (As := As.map (en_cv ρ)) (rest := r.map (en_cv ρ)) (b := ρ a) (n := na) (H := H) (locs := locs) (cells := k) (slots := j) (e := e) (below := below) (meth := meth) (g := F0 m pc ls (st.map (en_cv ρ))) ⟨X.1.1, X.1.2.1, X.1.2.2.1, X.1.2.2.2.1, hts⟩ hm ⟨hB, hnm, hts _ hi⟩ (en_pre X (As := .ref a :: As) h5 h6) rfl (by rw [List.length_map]; exact hAs) (h8.1.trans h9) (by show st.map (en_cv ρ) = _; rw [hst, List.map_append, List.map_reverse]; rfl) (by show 2 * 0 + _ ≤ 8; omega) hd ⟨by have := X.2.2.1.2.2.2.1; omega, by have := X.2.2.1.2.2.2.2; omega⟩
  refine en_back hrun h7 (fun H1 locs1 e1 e2 e3 => ?_)
  have := K (k + (x' - x)) (j + (u' - u)) H1 locs1 ls (by show x' = _; omega) (by show u' = _; omega) hx hu e1 e2 e3 h8 h9 (fun q => (ho.2.2 en_S (by have := X.2.2.1.2.2.1; omega)).trans (h10 q))
  rw [show (v.map (en_cv ρ)).toList ++ r.map (en_cv ρ) = (v.toList ++ r).map (en_cv ρ) by cases v <;> rfl]
  exact this
theorem so_initN (X : en_X p R s m args meth cd D tc ρ b0 x0 u0 x1 u1 y) {d n y' na ci a : Nat} {fs : List Value} {As r : List Value} {v : Option Value} {c' : en_H} {x' u' : Nat} (hR : d + 1 ≤ R.frames ∧ 40 * (d + 1) ≤ R.locals) (hd : decode (mt_code y) pc = .ok (.invokespecial n, 3)) (hM : en_okM (mt_cls y) n (3, y', na, ci)) (hst : st = As.reverse ++ .ref a :: r) (hAs : As.length = na) (hr : r.length ≤ 4) (hm : en_M l D tc ρ b0 d y' (.ref a :: As) c x u v c' x' u') (ho : en_ok c x u c' x' u') (hx : x' ≤ x1) (hu : u' ≤ u1) (K : en_A p l e R s m args below meth cd Q D tc ρ b0 x0 u0 x1 u1 y sc (pc + 3, lv, v.toList ++ r, c', x', u')) : en_A p l e R s m args below meth cd Q D tc ρ b0 x0 u0 x1 u1 y sc (pc, lv, st, c, x, u) := by
  intro k j H locs ls h1 h2 h3 h4 h5 h6 h7 h8 h9 h10
  have hts := X.1.2.2.2.2
  have hx' : x = x0 + k := h1
  have hu' : u = u0 + j := h2
  have hox := ho.1
  have hou := ho.2.1
  have hsm := en_sum (ρ := ρ) hr
  obtain ⟨⟨host, hl⟩, hi, hnm, hrt, hY⟩ := hM.2.2.2.1 rfl
  have hB := va_cnB (R := R) (args := args) (mc := x' - x) (ms := u' - u) (rm := en_room d (x' - x) (u' - u)) na hts (en_goodM hY.1) rfl rfl rfl (X.2.1.2 _ hl) (hts _ hY.2.1) ⟨hY.2.2.1.1, hY.2.2.1.2, hY.2.2.2.1⟩ ⟨hR.1, by show 8 + (mt_nl y' + 11) + 40 * d ≤ _; have hnl : mt_nl y' ≤ 21 := hY.2.2.2.2; omega⟩
  rw [hrt] at hB
  have hrun := va_runIN (As := As.map (en_cv ρ)) (rest := r.map (en_cv ρ)) (b := ρ a) (n := na) (H := H) (locs := locs) (cells := k) (slots := j) (e := e) (below := below) (meth := meth) (g := F0 m pc ls (st.map (en_cv ρ))) ⟨X.1.1, X.1.2.1, X.1.2.2.1, X.1.2.2.2.1, hts⟩ hm ⟨hB, hnm, hts _ hi⟩ (en_pre X (As := .ref a :: As) h5 h6) rfl (by rw [List.length_map]; exact hAs) (h8.1.trans h9) (by show st.map (en_cv ρ) = _; rw [hst, List.map_append, List.map_reverse]; rfl) (by show 2 * 0 + _ ≤ 8; omega) hd ⟨by have := X.2.2.1.2.2.2.1; omega, by have := X.2.2.1.2.2.2.2; omega⟩
  refine en_back hrun h7 (fun H1 locs1 e1 e2 e3 => ?_)
  have := K (k + (x' - x)) (j + (u' - u)) H1 locs1 ls (by show x' = _; omega) (by show u' = _; omega) hx hu e1 e2 e3 h8 h9 (fun q => (ho.2.2 en_S (by have := X.2.2.1.2.2.1; omega)).trans (h10 q))
  rw [show (v.map (en_cv ρ)).toList ++ r.map (en_cv ρ) = (v.toList ++ r).map (en_cv ρ) by cases v <;> rfl]
  exact this
end ES4
end
section
/-! THE ENGINE: the abstract machine is sound. -/
theorem en_p1_inv {st : List Value} {k : Int32 → List Value → en_O} {n : en_N} (h : en_p1 st k = some n) : ∃ a r, st = .int a :: r ∧ k a r = some n := by
  unfold en_p1 at h
  split at h
  · exact ⟨_, _, rfl, h⟩
  · cases h
theorem en_p2_inv {st : List Value} {k : Int32 → Int32 → List Value → en_O} {n : en_N} (h : en_p2 st k = some n) : ∃ a b r, st = .int b :: .int a :: r ∧ k a b r = some n := by
  unfold en_p2 at h
  split at h
  · exact ⟨_, _, _, rfl, h⟩
  · cases h
theorem en_l2_inv {st : List Value} {k : Int64 → Int64 → List Value → en_O} {n : en_N} (h : en_l2 st k = some n) : ∃ a b r, st = .long b :: .long a :: r ∧ k a b r = some n := by
  unfold en_l2 at h
  split at h
  · exact ⟨_, _, _, rfl, h⟩
  · cases h
theorem en_li_inv {st : List Value} {k : Int64 → Int32 → List Value → en_O} {n : en_N} (h : en_li st k = some n) : ∃ a b r, st = .int b :: .long a :: r ∧ k a b r = some n := by
  unfold en_li at h
  split at h
  · exact ⟨_, _, _, rfl, h⟩
  · cases h
theorem en_pr_inv {st : List Value} {k : Nat → List Value → en_O} {n : en_N} (h : en_pr st k = some n) : ∃ a r, st = .ref a :: r ∧ k a r = some n := by
  unfold en_pr at h
  split at h
  · exact ⟨_, _, rfl, h⟩
  · cases h
theorem en_ir_inv {st : List Value} {k : Nat → Int32 → List Value → en_O} {n : en_N} (h : en_ir st k = some n) : ∃ a i r, st = .int i :: .ref a :: r ∧ k a i r = some n := by
  unfold en_ir at h
  split at h
  · exact ⟨_, _, _, rfl, h⟩
  · cases h
theorem en_iir_inv {st : List Value} {k : Nat → Int32 → Int32 → List Value → en_O} {n : en_N} (h : en_iir st k = some n) : ∃ a i v r, st = .int v :: .int i :: .ref a :: r ∧ k a i v r = some n := by
  unfold en_iir at h
  split at h
  · exact ⟨_, _, _, _, rfl, h⟩
  · cases h
theorem en_lir_inv {st : List Value} {k : Nat → Int32 → Int64 → List Value → en_O} {n : en_N} (h : en_lir st k = some n) : ∃ a i v r, st = .long v :: .int i :: .ref a :: r ∧ k a i v r = some n := by
  unfold en_lir at h
  split at h
  · exact ⟨_, _, _, _, rfl, h⟩
  · cases h
theorem en_cp_inv {st : List Value} {k : Nat → Int32 → Nat → Int32 → Int32 → List Value → en_O} {n : en_N} (h : en_cp st k = some n) : ∃ a0 sp a1 dp n' r, st = .int n' :: .int dp :: .ref a1 :: .int sp :: .ref a0 :: r ∧ k a0 sp a1 dp n' r = some n := by
  unfold en_cp at h
  split at h
  · exact ⟨_, _, _, _, _, _, rfl, h⟩
  · cases h
theorem en_vr_inv {st : List Value} {k : Nat → Value → List Value → en_O} {n : en_N} (h : en_vr st k = some n) : ∃ a v r, st = v :: .ref a :: r ∧ k a v r = some n := by
  unfold en_vr at h
  split at h
  · exact ⟨_, _, _, rfl, h⟩
  · cases h
theorem en_ldI_inv {lv : en_L} {i : Nat} {k : Int32 → en_O} {n : en_N} (h : en_ldI lv i k = some n) : ∃ a, lv[i]? = some (some (.int a)) ∧ k a = some n := by
  unfold en_ldI at h
  split at h
  · rename_i a ha; exact ⟨a, ha, h⟩
  · cases h
theorem en_ldA_inv {lv : en_L} {i : Nat} {k : Nat → en_O} {n : en_N} (h : en_ldA lv i k = some n) : ∃ a, lv[i]? = some (some (.ref a)) ∧ k a = some n := by
  unfold en_ldA at h
  split at h
  · rename_i a ha; exact ⟨a, ha, h⟩
  · cases h
theorem en_arI_inv {e : en_C} {k : Nat → Nat → (Nat → Int32) → en_O} {n : en_N} (h : en_arI e k = some n) : ∃ t m f, e = .inl (t, m, .inl f) ∧ k t m f = some n := by
  unfold en_arI at h
  split at h
  · exact ⟨_, _, _, rfl, h⟩
  · cases h
theorem en_arL_inv {e : en_C} {k : Nat → Nat → (Nat → Int64) → en_O} {n : en_N} (h : en_arL e k = some n) : ∃ t m f, e = .inl (t, m, .inr (.inl f)) ∧ k t m f = some n := by
  unfold en_arL at h
  split at h
  · exact ⟨_, _, _, rfl, h⟩
  · cases h
theorem en_arN_inv {e : en_C} {k : Nat → Nat → en_O} {n : en_N} (h : en_arN e k = some n) : ∃ t m f, e = .inl (t, m, f) ∧ k t m = some n := by
  unfold en_arN at h
  split at h
  · exact ⟨_, _, _, rfl, h⟩
  · cases h
theorem en_ob_inv {e : en_C} {k : Nat → List Value → en_O} {n : en_N} (h : en_ob e k = some n) : ∃ ci fs, e = .inr (ci, fs) ∧ k ci fs = some n := by
  unfold en_ob at h
  split at h
  · exact ⟨_, _, rfl, h⟩
  · cases h
theorem en_op_inv {α : Type} {o : Option α} {k : α → en_O} {n : en_N} (h : en_op o k = some n) : ∃ a, o = some a ∧ k a = some n := by
  unfold en_op at h
  split at h
  · exact ⟨_, rfl, h⟩
  · cases h
theorem en_abs {P : Prop} {n : en_N} (h : (none : en_O) = some n) : P := by cases h
theorem en_if_inv {p : Prop} {a : en_O} {n : en_N} (h : en_if p a none = some n) : p ∧ a = some n := by
  by_cases hp : p
  · rw [en_if_t hp] at h; exact ⟨hp, h⟩
  · rw [en_if_f hp] at h; cases h
theorem en_fr_inv {pc : Nat} {lv : en_L} {st : List Value} {c : en_H} {x u : Nat} {g : en_F} (h : en_fr pc lv st c x u = some (.inl g)) : g = (pc, lv, st, c, x, u) := (Sum.inl.inj (Option.some.inj h)).symm
theorem en_fr_no {pc : Nat} {lv : en_L} {st : List Value} {c : en_H} {x u : Nat} {r : (Option Value × en_H × Nat × Nat) ⊕ (Nat × List Value × Nat × en_L × List Value)} (h : en_fr pc lv st c x u = some (.inr r)) : False := by cases (Option.some.inj h)
theorem en_tg_inv {pc : Nat} {off : Int} {lv : en_L} {st : List Value} {c : en_H} {x u : Nat} {g : en_F} (h : en_tg pc off lv st c x u = some (.inl g)) : 0 ≤ (pc : Int) + off ∧ g = (((pc : Int) + off).toNat, lv, st, c, x, u) := by
  obtain ⟨h1, h2⟩ := en_if_inv h
  exact ⟨h1, en_fr_inv h2⟩
theorem en_sto_inv {pc i : Nat} {v : Value} {lv : en_L} {st : List Value} {c : en_H} {x u : Nat} {g : en_F} (h : en_sto pc lv i v st c x u = some (.inl g)) : i < lv.length ∧ g = (pc, lv.set i (some v), st, c, x, u) := by
  obtain ⟨h1, h2⟩ := en_if_inv h
  exact ⟨h1, en_fr_inv h2⟩
theorem en_hd {y pc : Nat} {i : Jvm.ClassFile.Instr} {len : Nat} (h : decode (mt_code y) pc = .ok (i, len)) (hl : len = en_len i ∨ en_len i = 0) (h0 : en_len i ≠ 0) : decode (mt_code y) pc = .ok (i, en_len i) := by
  rcases hl with rfl | hl
  · exact h
  · exact absurd hl h0
def en_pn (o : en_O) : Prop := ∀ r, o ≠ some (.inr r)
theorem en_pn_0 : en_pn none := fun r h => by cases h
theorem en_pn_fr {pc : Nat} {lv : en_L} {st : List Value} {c : en_H} {x u : Nat} : en_pn (en_fr pc lv st c x u) := fun r h => en_fr_no h
theorem en_pn_if {p : Prop} {a b : en_O} (ha : en_pn a) (hb : en_pn b) : en_pn (en_if p a b) := by
  by_cases hp : p
  · rw [en_if_t hp]; exact ha
  · rw [en_if_f hp]; exact hb
theorem en_pn_tg {pc : Nat} {off : Int} {lv : en_L} {st : List Value} {c : en_H} {x u : Nat} : en_pn (en_tg pc off lv st c x u) := en_pn_if en_pn_fr en_pn_0
theorem en_pn_sto {pc i : Nat} {v : Value} {lv : en_L} {st : List Value} {c : en_H} {x u : Nat} : en_pn (en_sto pc lv i v st c x u) := en_pn_if en_pn_fr en_pn_0
theorem en_pn_p1 {st : List Value} {k : Int32 → List Value → en_O} (h : ∀ a b, en_pn (k a b)) : en_pn (en_p1 st k) := by
  unfold en_p1
  split
  · exact h _ _
  · exact en_pn_0
theorem en_pn_p2 {st : List Value} {k : Int32 → Int32 → List Value → en_O} (h : ∀ a b c, en_pn (k a b c)) : en_pn (en_p2 st k) := by
  unfold en_p2
  split
  · exact h _ _ _
  · exact en_pn_0
theorem en_pn_l2 {st : List Value} {k : Int64 → Int64 → List Value → en_O} (h : ∀ a b c, en_pn (k a b c)) : en_pn (en_l2 st k) := by
  unfold en_l2
  split
  · exact h _ _ _
  · exact en_pn_0
theorem en_pn_li {st : List Value} {k : Int64 → Int32 → List Value → en_O} (h : ∀ a b c, en_pn (k a b c)) : en_pn (en_li st k) := by
  unfold en_li
  split
  · exact h _ _ _
  · exact en_pn_0
theorem en_pn_pr {st : List Value} {k : Nat → List Value → en_O} (h : ∀ a b, en_pn (k a b)) : en_pn (en_pr st k) := by
  unfold en_pr
  split
  · exact h _ _
  · exact en_pn_0
theorem en_pn_ir {st : List Value} {k : Nat → Int32 → List Value → en_O} (h : ∀ a b c, en_pn (k a b c)) : en_pn (en_ir st k) := by
  unfold en_ir
  split
  · exact h _ _ _
  · exact en_pn_0
theorem en_pn_iir {st : List Value} {k : Nat → Int32 → Int32 → List Value → en_O} (h : ∀ a b c d, en_pn (k a b c d)) : en_pn (en_iir st k) := by
  unfold en_iir
  split
  · exact h _ _ _ _
  · exact en_pn_0
theorem en_pn_lir {st : List Value} {k : Nat → Int32 → Int64 → List Value → en_O} (h : ∀ a b c d, en_pn (k a b c d)) : en_pn (en_lir st k) := by
  unfold en_lir
  split
  · exact h _ _ _ _
  · exact en_pn_0
theorem en_pn_vr {st : List Value} {k : Nat → Value → List Value → en_O} (h : ∀ a b c, en_pn (k a b c)) : en_pn (en_vr st k) := by
  unfold en_vr
  split
  · exact h _ _ _
  · exact en_pn_0
theorem en_pn_ldI {lv : en_L} {i : Nat} {k : Int32 → en_O} (h : ∀ a, en_pn (k a)) : en_pn (en_ldI lv i k) := by
  unfold en_ldI
  split
  · exact h _
  · exact en_pn_0
theorem en_pn_ldA {lv : en_L} {i : Nat} {k : Nat → en_O} (h : ∀ a, en_pn (k a)) : en_pn (en_ldA lv i k) := by
  unfold en_ldA
  split
  · exact h _
  · exact en_pn_0
theorem en_pn_arI {e : en_C} {k : Nat → Nat → (Nat → Int32) → en_O} (h : ∀ a b c, en_pn (k a b c)) : en_pn (en_arI e k) := by
  unfold en_arI
  split
  · exact h _ _ _
  · exact en_pn_0
theorem en_pn_arL {e : en_C} {k : Nat → Nat → (Nat → Int64) → en_O} (h : ∀ a b c, en_pn (k a b c)) : en_pn (en_arL e k) := by
  unfold en_arL
  split
  · exact h _ _ _
  · exact en_pn_0
theorem en_pn_arN {e : en_C} {k : Nat → Nat → en_O} (h : ∀ a b, en_pn (k a b)) : en_pn (en_arN e k) := by
  unfold en_arN
  split
  · exact h _ _
  · exact en_pn_0
theorem en_pn_ob {e : en_C} {k : Nat → List Value → en_O} (h : ∀ a b, en_pn (k a b)) : en_pn (en_ob e k) := by
  unfold en_ob
  split
  · exact h _ _
  · exact en_pn_0
theorem en_pn_op {α : Type} {o : Option α} {k : α → en_O} (h : ∀ a, en_pn (k a)) : en_pn (en_op o k) := by
  unfold en_op
  split
  · exact h _
  · exact en_pn_0
/-- all that the tables must be -/
def en_Tok : Prop := (∀ o n q, tb_fld o n = some q → en_okF o n q) ∧ (∀ o n q, tb_new o n = some q → en_okN o n q) ∧ (∀ o n q, tb_mth o n = some q → en_okM o n q) ∧ (∀ o n v, tb_ldc o n = some v → Cond.constant (mt_cn o) n v ∈ en_T0) ∧ (∀ ty t, en_at ty = some t → Cond.arrayClass (newarray.typeOf ty) ∈ en_T0)
theorem en_pn_st1 {pc : Nat} {lv : en_L} {st : List Value} {c : en_H} {x u : Nat} : en_pn (match st with
    | v :: r => en_if (v.category = 1) (en_fr (pc + 1) lv (v :: v :: r) c x u) none
    | _ => none) := by
  split
  · exact en_pn_if en_pn_fr en_pn_0
  · exact en_pn_0
theorem en_pn_st2 {pc : Nat} {lv : en_L} {st : List Value} {c : en_H} {x u : Nat} : en_pn (match st with
    | v :: w :: r => en_if (v.category = 1 ∧ w.category = 1) (en_fr (pc + 1) lv (v :: w :: v :: w :: r) c x u) none
    | _ => none) := by
  split
  · exact en_pn_if en_pn_fr en_pn_0
  · exact en_pn_0
theorem en_pn_st3 {pc : Nat} {lv : en_L} {st : List Value} {c : en_H} {x u : Nat} : en_pn (match st with
    | v :: r => en_if (v.category = 1) (en_fr (pc + 1) lv r c x u) none
    | _ => none) := by
  split
  · exact en_pn_if en_pn_fr en_pn_0
  · exact en_pn_0
theorem en_ret_nc {y : Nat} {st : List Value} {c : en_H} {x u : Nat} {q : Nat × List Value × Nat × en_L × List Value} (h : en_ret y st c x u = some (.inr (.inr q))) : False := by
  unfold en_ret at h
  split at h
  · obtain ⟨-, h⟩ := en_if_inv h
    cases (Sum.inr.inj (Option.some.inj h))
  · cases h
theorem en_reta_nc {y : Nat} {st : List Value} {c : en_H} {x u : Nat} {q : Nat × List Value × Nat × en_L × List Value} (h : en_reta y st c x u = some (.inr (.inr q))) : False := by
  unfold en_reta at h
  split at h
  · obtain ⟨-, h⟩ := en_if_inv h
    cases (Sum.inr.inj (Option.some.inj h))
  · cases h
theorem en_retv_nc {y : Nat} {st : List Value} {c : en_H} {x u : Nat} {q : Nat × List Value × Nat × en_L × List Value} (h : en_retv y st c x u = some (.inr (.inr q))) : False := by
  unfold en_retv at h
  split at h
  · obtain ⟨-, h⟩ := en_if_inv h
    cases (Sum.inr.inj (Option.some.inj h))
  · cases h
section ES5
variable {p : Program} {l : Launch} {e : Env} {R : Room} {s : State} {m : MethodId} {args : Array Value} {below : List Frame} {meth : Method} {cd : Code} {Q : State → Prop} {D : va_G} {tc : Nat → ClassId} {ρ : Nat → Nat} {b0 x0 u0 x1 u1 y : Nat} {sc : Nat × (Nat → Int32)}
variable {pc : Nat} {lv : en_L} {st : List Value} {c : en_H} {x u : Nat}
/-- one instruction that goes on -/
theorem en_one (X : en_X p R s m args meth cd D tc ρ b0 x0 u0 x1 u1 y) (Tok : en_Tok) (hX : y = mt_law → ∃ b, ρ en_S = b ∧ va_X b sc.1 sc.2 s s.heap ∧ b < s.heap.size ∧ ¬ b0 ≤ b) (hR : 1 ≤ R.frames ∧ 40 ≤ R.locals) {i : Jvm.ClassFile.Instr} {len : Nat} {g : en_F} (hd : decode (mt_code y) pc = .ok (i, len)) (hl : len = en_len i ∨ en_len i = 0) (ho : en_step y i pc lv st c x u = some (.inl g)) (hgx : g.2.2.2.2.1 ≤ x1) (hgu : g.2.2.2.2.2 ≤ u1) (K : en_A p l e R s m args below meth cd Q D tc ρ b0 x0 u0 x1 u1 y sc (g)) : en_A p l e R s m args below meth cd Q D tc ρ b0 x0 u0 x1 u1 y sc (pc, lv, st, c, x, u) := by
  cases i
  case iconst n =>
    have hd : decode (mt_code y) pc = .ok (.iconst n, 1) := en_hd hd hl (Nat.succ_ne_zero _)
    obtain rfl := en_fr_inv ho
    exact so_iconst X hd K
  case bipush n =>
    have hd : decode (mt_code y) pc = .ok (.bipush n, 2) := en_hd hd hl (Nat.succ_ne_zero _)
    obtain rfl := en_fr_inv ho
    exact so_bipush X hd K
  case sipush n =>
    have hd : decode (mt_code y) pc = .ok (.sipush n, 3) := en_hd hd hl (Nat.succ_ne_zero _)
    obtain rfl := en_fr_inv ho
    exact so_sipush X hd K
  case ldc n =>
    have hd : decode (mt_code y) pc = .ok (.ldc n, 2) := en_hd hd hl (Nat.succ_ne_zero _)
    obtain ⟨v, hv, ho1⟩ := en_op_inv ho
    obtain rfl := en_fr_inv ho1
    exact so_ldc X hd (Tok.2.2.2.1 _ _ _ hv) K
  case lconst n =>
    have hd : decode (mt_code y) pc = .ok (.lconst n, 1) := en_hd hd hl (Nat.succ_ne_zero _)
    obtain rfl := en_fr_inv ho
    exact so_lconst X hd K
  case iload n =>
    have hd : decode (mt_code y) pc = .ok (.iload n, 2) := en_hd hd hl (Nat.succ_ne_zero _)
    obtain ⟨a, ha, ho1⟩ := en_ldI_inv ho
    obtain rfl := en_fr_inv ho1
    exact so_iload X hd ha K
  case iload_n n =>
    have hd : decode (mt_code y) pc = .ok (.iload_n n, 1) := en_hd hd hl (Nat.succ_ne_zero _)
    obtain ⟨a, ha, ho1⟩ := en_ldI_inv ho
    obtain rfl := en_fr_inv ho1
    exact so_iload_n X hd ha K
  case istore n =>
    have hd : decode (mt_code y) pc = .ok (.istore n, 2) := en_hd hd hl (Nat.succ_ne_zero _)
    obtain ⟨a, r, rfl, ho1⟩ := en_p1_inv ho
    obtain ⟨hn, rfl⟩ := en_sto_inv ho1
    exact so_istore X hd hn K
  case istore_n n =>
    have hd : decode (mt_code y) pc = .ok (.istore_n n, 1) := en_hd hd hl (Nat.succ_ne_zero _)
    obtain ⟨a, r, rfl, ho1⟩ := en_p1_inv ho
    obtain ⟨hn, rfl⟩ := en_sto_inv ho1
    exact so_istore_n X hd hn K
  case aload n =>
    have hd : decode (mt_code y) pc = .ok (.aload n, 2) := en_hd hd hl (Nat.succ_ne_zero _)
    obtain ⟨a, ha, ho1⟩ := en_ldA_inv ho
    obtain rfl := en_fr_inv ho1
    exact so_aload X hd ha K
  case aload_n n =>
    have hd : decode (mt_code y) pc = .ok (.aload_n n, 1) := en_hd hd hl (Nat.succ_ne_zero _)
    obtain ⟨a, ha, ho1⟩ := en_ldA_inv ho
    obtain rfl := en_fr_inv ho1
    exact so_aload_n X hd ha K
  case astore n =>
    have hd : decode (mt_code y) pc = .ok (.astore n, 2) := en_hd hd hl (Nat.succ_ne_zero _)
    obtain ⟨a, r, rfl, ho1⟩ := en_pr_inv ho
    obtain ⟨hn, rfl⟩ := en_sto_inv ho1
    exact so_astore X hd hn K
  case astore_n n =>
    have hd : decode (mt_code y) pc = .ok (.astore_n n, 1) := en_hd hd hl (Nat.succ_ne_zero _)
    obtain ⟨a, r, rfl, ho1⟩ := en_pr_inv ho
    obtain ⟨hn, rfl⟩ := en_sto_inv ho1
    exact so_astore_n X hd hn K
  case iinc n k =>
    have hd : decode (mt_code y) pc = .ok (.iinc n k, 3) := en_hd hd hl (Nat.succ_ne_zero _)
    obtain ⟨a, ha, ho1⟩ := en_ldI_inv ho
    obtain ⟨hn, rfl⟩ := en_sto_inv ho1
    exact so_iinc X hd ha hn K
  case iadd =>
    have hd : decode (mt_code y) pc = .ok (.iadd, 1) := en_hd hd hl (Nat.succ_ne_zero _)
    obtain ⟨a, b, r, rfl, ho1⟩ := en_p2_inv ho
    obtain rfl := en_fr_inv ho1
    exact so_iadd X hd K
  case isub =>
    have hd : decode (mt_code y) pc = .ok (.isub, 1) := en_hd hd hl (Nat.succ_ne_zero _)
    obtain ⟨a, b, r, rfl, ho1⟩ := en_p2_inv ho
    obtain rfl := en_fr_inv ho1
    exact so_isub X hd K
  case imul =>
    have hd : decode (mt_code y) pc = .ok (.imul, 1) := en_hd hd hl (Nat.succ_ne_zero _)
    obtain ⟨a, b, r, rfl, ho1⟩ := en_p2_inv ho
    obtain rfl := en_fr_inv ho1
    exact so_imul X hd K
  case iand =>
    have hd : decode (mt_code y) pc = .ok (.iand, 1) := en_hd hd hl (Nat.succ_ne_zero _)
    obtain ⟨a, b, r, rfl, ho1⟩ := en_p2_inv ho
    obtain rfl := en_fr_inv ho1
    exact so_iand X hd K
  case idiv =>
    have hd : decode (mt_code y) pc = .ok (.idiv, 1) := en_hd hd hl (Nat.succ_ne_zero _)
    obtain ⟨a, b, r, rfl, ho1⟩ := en_p2_inv ho
    obtain ⟨hb, ho2⟩ := en_if_inv ho1
    obtain rfl := en_fr_inv ho2
    exact so_idiv X hd hb K
  case irem =>
    have hd : decode (mt_code y) pc = .ok (.irem, 1) := en_hd hd hl (Nat.succ_ne_zero _)
    obtain ⟨a, b, r, rfl, ho1⟩ := en_p2_inv ho
    obtain ⟨hb, ho2⟩ := en_if_inv ho1
    obtain rfl := en_fr_inv ho2
    exact so_irem X hd hb K
  case land =>
    have hd : decode (mt_code y) pc = .ok (.land, 1) := en_hd hd hl (Nat.succ_ne_zero _)
    obtain ⟨a, b, r, rfl, ho1⟩ := en_l2_inv ho
    obtain rfl := en_fr_inv ho1
    exact so_land X hd K
  case lor =>
    have hd : decode (mt_code y) pc = .ok (.lor, 1) := en_hd hd hl (Nat.succ_ne_zero _)
    obtain ⟨a, b, r, rfl, ho1⟩ := en_l2_inv ho
    obtain rfl := en_fr_inv ho1
    exact so_lor X hd K
  case lcmp =>
    have hd : decode (mt_code y) pc = .ok (.lcmp, 1) := en_hd hd hl (Nat.succ_ne_zero _)
    obtain ⟨a, b, r, rfl, ho1⟩ := en_l2_inv ho
    obtain rfl := en_fr_inv ho1
    exact so_lcmp X hd K
  case lshl =>
    have hd : decode (mt_code y) pc = .ok (.lshl, 1) := en_hd hd hl (Nat.succ_ne_zero _)
    obtain ⟨a, b, r, rfl, ho1⟩ := en_li_inv ho
    obtain rfl := en_fr_inv ho1
    exact so_lshl X hd K
  case lshr =>
    have hd : decode (mt_code y) pc = .ok (.lshr, 1) := en_hd hd hl (Nat.succ_ne_zero _)
    obtain ⟨a, b, r, rfl, ho1⟩ := en_li_inv ho
    obtain rfl := en_fr_inv ho1
    exact so_lshr X hd K
  case lushr =>
    have hd : decode (mt_code y) pc = .ok (.lushr, 1) := en_hd hd hl (Nat.succ_ne_zero _)
    obtain ⟨a, b, r, rfl, ho1⟩ := en_li_inv ho
    obtain rfl := en_fr_inv ho1
    exact so_lushr X hd K
  case dup =>
    have hd : decode (mt_code y) pc = .ok (.dup, 1) := en_hd hd hl (Nat.succ_ne_zero _)
    match st, ho with
    | [], ho => exact en_abs ho
    | v :: r, ho =>
      obtain ⟨hv, hk1⟩ := en_if_inv ho
      obtain rfl := en_fr_inv hk1
      exact so_dup X hd hv K
  case pop =>
    have hd : decode (mt_code y) pc = .ok (.pop, 1) := en_hd hd hl (Nat.succ_ne_zero _)
    match st, ho with
    | [], ho => exact en_abs ho
    | v :: r, ho =>
      obtain ⟨hv, hk1⟩ := en_if_inv ho
      obtain rfl := en_fr_inv hk1
      exact so_pop X hd hv K
  case dup2 =>
    have hd : decode (mt_code y) pc = .ok (.dup2, 1) := en_hd hd hl (Nat.succ_ne_zero _)
    match st, ho with
    | [], ho => exact en_abs ho
    | [_], ho => exact en_abs ho
    | v :: w :: r, ho =>
      obtain ⟨hv, hk1⟩ := en_if_inv ho
      obtain rfl := en_fr_inv hk1
      exact so_dup2 X hd hv K
  case goto off =>
    have hd : decode (mt_code y) pc = .ok (.goto off, 3) := en_hd hd hl (Nat.succ_ne_zero _)
    obtain ⟨ht, rfl⟩ := en_tg_inv ho
    exact so_goto X hd ht K
  case ifCond cd' off =>
    have hd : decode (mt_code y) pc = .ok (.ifCond cd' off, 3) := en_hd hd hl (Nat.succ_ne_zero _)
    obtain ⟨a, r, rfl, ho1⟩ := en_p1_inv ho
    obtain ⟨ht, hz⟩ := en_if_inv ho1
    by_cases hp : en_i1 cd' a
    · have hz2 : en_fr ((pc : Int) + off).toNat lv r c x u = some (.inl g) := (en_if_t hp).symm.trans hz
      obtain rfl := en_fr_inv hz2
      exact so_if X hd (Int.toNat_of_nonneg ht).symm (fun _ => ⟨trivial, K⟩) (fun z => absurd hp z)
    · have hz2 : en_fr (pc + 3) lv r c x u = some (.inl g) := (en_if_f hp).symm.trans hz
      obtain rfl := en_fr_inv hz2
      exact so_if X hd (Int.toNat_of_nonneg ht).symm (fun z => absurd z hp) (fun _ => K)
  case if_icmp cd' off =>
    have hd : decode (mt_code y) pc = .ok (.if_icmp cd' off, 3) := en_hd hd hl (Nat.succ_ne_zero _)
    obtain ⟨a, b, r, rfl, ho1⟩ := en_p2_inv ho
    obtain ⟨ht, hz⟩ := en_if_inv ho1
    by_cases hp : en_i2 cd' a b
    · have hz2 : en_fr ((pc : Int) + off).toNat lv r c x u = some (.inl g) := (en_if_t hp).symm.trans hz
      obtain rfl := en_fr_inv hz2
      exact so_icmp X hd (Int.toNat_of_nonneg ht).symm (fun _ => ⟨trivial, K⟩) (fun z => absurd hp z)
    · have hz2 : en_fr (pc + 3) lv r c x u = some (.inl g) := (en_if_f hp).symm.trans hz
      obtain rfl := en_fr_inv hz2
      exact so_icmp X hd (Int.toNat_of_nonneg ht).symm (fun z => absurd z hp) (fun _ => K)
  case tableswitch d lo hi offs =>
    obtain ⟨a, r, rfl, ho1⟩ := en_p1_inv ho
    by_cases hp : a.toInt < lo ∨ hi < a.toInt
    · have ho : en_tg pc d lv r c x u = some (.inl g) := (en_if_t hp).symm.trans ho
      obtain ⟨ht, rfl⟩ := en_tg_inv ho
      exact so_tab X hd (fun _ => ⟨ht, K⟩) (fun z => absurd hp z)
    · have ho : en_op (offs[(a.toInt - lo).toNat]?) (fun off => en_tg pc off lv r c x u) = some (.inl g) := (en_if_f hp).symm.trans ho
      obtain ⟨off, hoff, ho1⟩ := en_op_inv ho
      obtain ⟨ht, rfl⟩ := en_tg_inv ho1
      exact so_tab X hd (fun z => absurd z hp) (fun _ => ⟨off, hoff, ht, K⟩)
  case lookupswitch d ps =>
    obtain ⟨a, r, rfl, ho1⟩ := en_p1_inv ho
    obtain ⟨hp, ho2⟩ := en_if_inv ho1
    obtain ⟨ht, rfl⟩ := en_tg_inv ho2
    exact so_look X hd hp ht K
  case iaload =>
    have hd : decode (mt_code y) pc = .ok (.iaload, 1) := en_hd hd hl (Nat.succ_ne_zero _)
    obtain ⟨a, i, r, rfl, ho1⟩ := en_ir_inv ho
    obtain ⟨t, n, f, hc, ho2⟩ := en_arI_inv ho1
    obtain ⟨⟨rfl, ha, hi⟩, ho3⟩ := en_if_inv ho2
    obtain rfl := en_fr_inv ho3
    exact so_iald X hX hd hc ha hi K
  case baload =>
    have hd : decode (mt_code y) pc = .ok (.baload, 1) := en_hd hd hl (Nat.succ_ne_zero _)
    obtain ⟨a, i, r, rfl, ho1⟩ := en_ir_inv ho
    obtain ⟨t, n, f, hc, ho2⟩ := en_arI_inv ho1
    obtain ⟨⟨rfl, ha, hi⟩, ho3⟩ := en_if_inv ho2
    obtain rfl := en_fr_inv ho3
    exact so_zald X hd hc ha hi K
  case laload =>
    have hd : decode (mt_code y) pc = .ok (.laload, 1) := en_hd hd hl (Nat.succ_ne_zero _)
    obtain ⟨a, i, r, rfl, ho1⟩ := en_ir_inv ho
    obtain ⟨t, n, f, hc, ho2⟩ := en_arL_inv ho1
    obtain ⟨⟨rfl, ha, hi⟩, ho3⟩ := en_if_inv ho2
    obtain rfl := en_fr_inv ho3
    exact so_lald X hd hc ha hi K
  case iastore =>
    have hd : decode (mt_code y) pc = .ok (.iastore, 1) := en_hd hd hl (Nat.succ_ne_zero _)
    obtain ⟨a, i, v, r, rfl, ho1⟩ := en_iir_inv ho
    obtain ⟨t, n, f, hc, ho2⟩ := en_arI_inv ho1
    obtain ⟨⟨rfl, ha, hi⟩, ho3⟩ := en_if_inv ho2
    obtain rfl := en_fr_inv ho3
    exact so_iast X hd hc ha hi K
  case bastore =>
    have hd : decode (mt_code y) pc = .ok (.bastore, 1) := en_hd hd hl (Nat.succ_ne_zero _)
    obtain ⟨a, i, v, r, rfl, ho1⟩ := en_iir_inv ho
    obtain ⟨t, n, f, hc, ho2⟩ := en_arI_inv ho1
    obtain ⟨⟨rfl, ha, hi⟩, ho3⟩ := en_if_inv ho2
    obtain rfl := en_fr_inv ho3
    exact so_zast X hd hc ha hi K
  case lastore =>
    have hd : decode (mt_code y) pc = .ok (.lastore, 1) := en_hd hd hl (Nat.succ_ne_zero _)
    obtain ⟨a, i, v, r, rfl, ho1⟩ := en_lir_inv ho
    obtain ⟨t, n, f, hc, ho2⟩ := en_arL_inv ho1
    obtain ⟨⟨rfl, ha, hi⟩, ho3⟩ := en_if_inv ho2
    obtain rfl := en_fr_inv ho3
    exact so_last X hd hc ha hi K
  case arraylength =>
    have hd : decode (mt_code y) pc = .ok (.arraylength, 1) := en_hd hd hl (Nat.succ_ne_zero _)
    obtain ⟨a, r, rfl, ho1⟩ := en_pr_inv ho
    obtain ⟨t, n, f, hc, ho2⟩ := en_arN_inv ho1
    obtain ⟨⟨ht, ha, -⟩, ho3⟩ := en_if_inv ho2
    obtain rfl := en_fr_inv ho3
    exact so_alen X hX hd hc ht ha K
  case getfield n =>
    have hd : decode (mt_code y) pc = .ok (.getfield n, 3) := en_hd hd hl (Nat.succ_ne_zero _)
    obtain ⟨⟨ci, kf, kd, fin⟩, hq, ho1⟩ := en_op_inv ho
    obtain ⟨a, r, rfl, ho2⟩ := en_pr_inv ho1
    obtain ⟨ci', fs, hc, ho3⟩ := en_ob_inv ho2
    obtain ⟨v, hv, ho4⟩ := en_op_inv ho3
    obtain ⟨⟨ha, rfl⟩, ho5⟩ := en_if_inv ho4
    obtain rfl := en_fr_inv ho5
    exact so_get X hd (Tok.1 _ _ _ hq) hc ha hv K
  case putfield n =>
    have hd : decode (mt_code y) pc = .ok (.putfield n, 3) := en_hd hd hl (Nat.succ_ne_zero _)
    obtain ⟨⟨ci, kf, kd, fin⟩, hq, ho1⟩ := en_op_inv ho
    obtain ⟨a, v, r, rfl, ho2⟩ := en_vr_inv ho1
    obtain ⟨ci', fs, hc, ho3⟩ := en_ob_inv ho2
    obtain ⟨⟨ha, rfl, hlen, hfk, hini⟩, ho4⟩ := en_if_inv ho3
    obtain rfl := en_fr_inv ho4
    exact so_put X hd (Tok.1 _ _ _ hq) hc ha hlen hfk hini K
  case new n =>
    have hd : decode (mt_code y) pc = .ok (.new n, 3) := en_hd hd hl (Nat.succ_ne_zero _)
    obtain ⟨⟨ci, fs⟩, hq, ho1⟩ := en_op_inv ho
    obtain rfl := en_fr_inv ho1
    exact so_new X hd (Tok.2.1 _ _ _ hq) hgx hgu K
  case newarray ty =>
    have hd : decode (mt_code y) pc = .ok (.newarray ty, 2) := en_hd hd hl (Nat.succ_ne_zero _)
    obtain ⟨t, ht, ho1⟩ := en_op_inv ho
    obtain ⟨n, r, rfl, ho2⟩ := en_p1_inv ho1
    obtain ⟨⟨hn, hN⟩, ho3⟩ := en_if_inv ho2
    obtain rfl := en_fr_inv ho3
    exact so_newa X hd ht (Tok.2.2.2.2 _ _ ht) hn hN hgx hgu K
  case invokestatic n =>
    have hd : decode (mt_code y) pc = .ok (.invokestatic n, 3) := en_hd hd hl (Nat.succ_ne_zero _)
    obtain ⟨⟨kd, y', na, ci⟩, hq, ho1⟩ := en_op_inv ho
    have hM := Tok.2.2.1 _ _ _ hq
    match kd, hM, ho1 with
    | 0, hM, ho => exact en_abs ho
    | 1, hM, ho =>
      obtain ⟨-, hk1⟩ := en_if_inv ho
      cases (Option.some.inj hk1)
    | 2, hM, ho => exact en_abs ho
    | 3, hM, ho => exact en_abs ho
    | 4, hM, ho =>
      obtain ⟨a, b, r, rfl, hk1⟩ := en_p2_inv ho
      obtain ⟨hr, hk2⟩ := en_if_inv hk1
      obtain rfl := en_fr_inv hk2
      exact so_max X hR.1 hR.2 hd (hM.2.2.2.2.1 rfl) hr K
    | 5, hM, ho =>
      obtain ⟨a, b, r, rfl, hk1⟩ := en_p2_inv ho
      obtain ⟨hr, hk2⟩ := en_if_inv hk1
      obtain rfl := en_fr_inv hk2
      exact so_min X hR.1 hR.2 hd (hM.2.2.2.2.2.1 rfl) hr K
    | 6, hM, ho =>
      obtain ⟨a0, sp, a1, dp, n', r, rfl, hk1⟩ := en_cp_inv ho
      obtain ⟨t0, n0, f0, hc0, hk2⟩ := en_arI_inv hk1
      obtain ⟨t1, n1, f1, hc1, hk3⟩ := en_arI_inv hk2
      obtain ⟨⟨i1, i2, rfl, rfl, i5, i6, i7, i8, i9, i10⟩, hk4⟩ := en_if_inv hk3
      obtain rfl := en_fr_inv hk4
      exact so_copy X hR.1 hR.2 hd (hM.2.2.2.2.2.2.1 rfl) hc0 hc1 i1 i2 i5 i6 i7 i8 i9 i10 K
    | kd + 7, hM, ho => exact en_abs ho
  case invokespecial n =>
    have hd : decode (mt_code y) pc = .ok (.invokespecial n, 3) := en_hd hd hl (Nat.succ_ne_zero _)
    obtain ⟨⟨kd, y', na, ci⟩, hq, ho1⟩ := en_op_inv ho
    have hM := Tok.2.2.1 _ _ _ hq
    match kd, hM, ho1 with
    | 0, hM, ho => exact en_abs ho
    | 1, hM, ho => exact en_abs ho
    | 2, hM, ho =>
      obtain ⟨a, r, -, hk1⟩ := en_pr_inv ho
      obtain ⟨-, hk2⟩ := en_if_inv hk1
      cases (Option.some.inj hk2)
    | 3, hM, ho =>
      obtain ⟨a, r, -, hk1⟩ := en_pr_inv ho
      obtain ⟨-, hk2⟩ := en_if_inv hk1
      cases (Option.some.inj hk2)
    | 4, hM, ho => exact en_abs ho
    | 5, hM, ho => exact en_abs ho
    | 6, hM, ho => exact en_abs ho
    | 7, hM, ho =>
      obtain ⟨a, r, rfl, hk1⟩ := en_pr_inv ho
      obtain ⟨hr, hk2⟩ := en_if_inv hk1
      obtain rfl := en_fr_inv hk2
      exact so_obj X hR.1 hR.2 hd (hM.2.2.2.2.2.2.2 rfl) hr K
    | kd + 8, hM, ho => exact en_abs ho
  case invokevirtual n =>
    have hd : decode (mt_code y) pc = .ok (.invokevirtual n, 3) := en_hd hd hl (Nat.succ_ne_zero _)
    obtain ⟨⟨kd, y', na, ci⟩, hq, ho1⟩ := en_op_inv ho
    obtain ⟨-, ho2⟩ := en_if_inv ho1
    obtain ⟨a, r, -, ho3⟩ := en_pr_inv ho2
    obtain ⟨-, ho4⟩ := en_if_inv ho3
    obtain ⟨ci', fs, -, ho5⟩ := en_ob_inv ho4
    obtain ⟨-, ho6⟩ := en_if_inv ho5
    cases (Option.some.inj ho6)
  case ireturn =>
    have ho : en_ret y st c x u = some (.inl g) := ho
    unfold en_ret at ho
    split at ho
    · obtain ⟨-, ho1⟩ := en_if_inv ho
      cases (Option.some.inj ho1)
    · cases ho
  case areturn =>
    have ho : en_reta y st c x u = some (.inl g) := ho
    unfold en_reta at ho
    split at ho
    · obtain ⟨-, ho1⟩ := en_if_inv ho
      cases (Option.some.inj ho1)
    · cases ho
  case return_ =>
    have ho : en_retv y st c x u = some (.inl g) := ho
    unfold en_retv at ho
    split at ho
    · obtain ⟨-, ho1⟩ := en_if_inv ho
      cases (Option.some.inj ho1)
    · cases ho
  all_goals exact en_abs ho
/-- one call -/
theorem en_onec (X : en_X p R s m args meth cd D tc ρ b0 x0 u0 x1 u1 y) (Tok : en_Tok) {d : Nat} (hR : d + 1 ≤ R.frames ∧ 40 * (d + 1) ≤ R.locals) {i : Jvm.ClassFile.Instr} {len : Nat} {q : Nat × List Value × Nat × en_L × List Value} {v : Option Value} {c' : en_H} {x' u' : Nat} (hd : decode (mt_code y) pc = .ok (i, len)) (hl : len = en_len i ∨ en_len i = 0) (ho : en_step y i pc lv st c x u = some (.inr (.inr q))) (hm : en_M l D tc ρ b0 d q.1 q.2.1 c x u v c' x' u') (hok : en_ok c x u c' x' u') (hgx : x' ≤ x1) (hgu : u' ≤ u1) (K : en_A p l e R s m args below meth cd Q D tc ρ b0 x0 u0 x1 u1 y sc (q.2.2.1, q.2.2.2.1, v.toList ++ q.2.2.2.2, c', x', u')) : en_A p l e R s m args below meth cd Q D tc ρ b0 x0 u0 x1 u1 y sc (pc, lv, st, c, x, u) := by
  cases i
  case invokevirtual n =>
    have hd : decode (mt_code y) pc = .ok (.invokevirtual n, 3) := en_hd hd hl (Nat.succ_ne_zero _)
    obtain ⟨⟨kd, y', na, ci⟩, hq, ho1⟩ := en_op_inv ho
    obtain ⟨rfl, ho2⟩ := en_if_inv ho1
    obtain ⟨a, r, hst, ho3⟩ := en_pr_inv ho2
    obtain ⟨⟨ha, hr, hlen⟩, ho4⟩ := en_if_inv ho3
    obtain ⟨ci', fs, hc, ho5⟩ := en_ob_inv ho4
    obtain ⟨rfl, ho6⟩ := en_if_inv ho5
    obtain rfl := (Sum.inr.inj (Sum.inr.inj (Option.some.inj ho6))).symm
    exact so_virt X hR hd (Tok.2.2.1 _ _ _ hq) (As := (st.take na).reverse) (by rw [List.reverse_reverse, ← hst, List.take_append_drop]) (by rw [List.length_reverse]; exact hlen) hc ha hr hm hok hgx hgu K
  case invokestatic n =>
    have hd : decode (mt_code y) pc = .ok (.invokestatic n, 3) := en_hd hd hl (Nat.succ_ne_zero _)
    obtain ⟨⟨kd, y', na, ci⟩, hq, ho1⟩ := en_op_inv ho
    have hM := Tok.2.2.1 _ _ _ hq
    match kd, hM, ho1 with
    | 0, hM, ho => exact en_abs ho
    | 1, hM, ho =>
      obtain ⟨⟨hr, hlen⟩, hk1⟩ := en_if_inv ho
      obtain rfl := (Sum.inr.inj (Sum.inr.inj (Option.some.inj hk1))).symm
      exact so_stat (a := 0) (fs := []) X hR hd hM (As := (st.take na).reverse) (by rw [List.reverse_reverse, List.take_append_drop]) (by rw [List.length_reverse]; exact hlen) hr hm hok hgx hgu K
    | 2, hM, ho => exact en_abs ho
    | 3, hM, ho => exact en_abs ho
    | 4, hM, ho =>
      obtain ⟨a, b, r, -, hk1⟩ := en_p2_inv ho
      obtain ⟨-, hk2⟩ := en_if_inv hk1
      exact (en_fr_no hk2).elim
    | 5, hM, ho =>
      obtain ⟨a, b, r, -, hk1⟩ := en_p2_inv ho
      obtain ⟨-, hk2⟩ := en_if_inv hk1
      exact (en_fr_no hk2).elim
    | 6, hM, ho =>
      obtain ⟨a0, sp, a1, dp, n', r, -, hk1⟩ := en_cp_inv ho
      obtain ⟨t0, n0, f0, -, hk2⟩ := en_arI_inv hk1
      obtain ⟨t1, n1, f1, -, hk3⟩ := en_arI_inv hk2
      obtain ⟨-, hk4⟩ := en_if_inv hk3
      exact (en_fr_no hk4).elim
    | kd + 7, hM, ho => exact en_abs ho
  case invokespecial n =>
    have hd : decode (mt_code y) pc = .ok (.invokespecial n, 3) := en_hd hd hl (Nat.succ_ne_zero _)
    obtain ⟨⟨kd, y', na, ci⟩, hq, ho1⟩ := en_op_inv ho
    have hM := Tok.2.2.1 _ _ _ hq
    match kd, hM, ho1 with
    | 0, hM, ho => exact en_abs ho
    | 1, hM, ho => exact en_abs ho
    | 2, hM, ho =>
      obtain ⟨a, r, hst, hk1⟩ := en_pr_inv ho
      obtain ⟨⟨hr, hlen⟩, hk2⟩ := en_if_inv hk1
      obtain rfl := (Sum.inr.inj (Sum.inr.inj (Option.some.inj hk2))).symm
      exact so_init (fs := []) X hR hd hM (As := (st.take na).reverse) (by rw [List.reverse_reverse, ← hst, List.take_append_drop]) (by rw [List.length_reverse]; exact hlen) hr hm hok hgx hgu K
    | 3, hM, ho =>
      obtain ⟨a, r, hst, hk1⟩ := en_pr_inv ho
      obtain ⟨⟨hr, hlen⟩, hk2⟩ := en_if_inv hk1
      obtain rfl := (Sum.inr.inj (Sum.inr.inj (Option.some.inj hk2))).symm
      exact so_initN (fs := []) X hR hd hM (As := (st.take na).reverse) (by rw [List.reverse_reverse, ← hst, List.take_append_drop]) (by rw [List.length_reverse]; exact hlen) hr hm hok hgx hgu K
    | 4, hM, ho => exact en_abs ho
    | 5, hM, ho => exact en_abs ho
    | 6, hM, ho => exact en_abs ho
    | 7, hM, ho =>
      obtain ⟨a, r, -, hk1⟩ := en_pr_inv ho
      obtain ⟨-, hk2⟩ := en_if_inv hk1
      exact (en_fr_no hk2).elim
    | kd + 8, hM, ho => exact en_abs ho
  case ireturn => exact (en_ret_nc ho).elim
  case areturn => exact (en_reta_nc ho).elim
  case return_ => exact (en_retv_nc ho).elim
  all_goals refine absurd ho ((?_ : en_pn _) _)
  all_goals repeat' first | exact en_pn_fr | exact en_pn_0 | exact en_pn_tg | exact en_pn_sto | refine en_pn_op (fun _ => ?_) | refine en_pn_p1 (fun _ _ => ?_) | refine en_pn_p2 (fun _ _ _ => ?_) | refine en_pn_l2 (fun _ _ _ => ?_) | refine en_pn_li (fun _ _ _ => ?_) | refine en_pn_pr (fun _ _ => ?_) | refine en_pn_ir (fun _ _ _ => ?_) | refine en_pn_iir (fun _ _ _ _ => ?_) | refine en_pn_lir (fun _ _ _ _ => ?_) | refine en_pn_vr (fun _ _ _ => ?_) | refine en_pn_ldI (fun _ => ?_) | refine en_pn_ldA (fun _ => ?_) | refine en_pn_arI (fun _ _ _ => ?_) | refine en_pn_arL (fun _ _ _ => ?_) | refine en_pn_arN (fun _ _ => ?_) | refine en_pn_ob (fun _ _ => ?_) | refine en_pn_if ?_ ?_ | exact en_pn_st1 | exact en_pn_st2 | exact en_pn_st3
/-- a whole run of a method -/
theorem en_main (X : en_X p R s m args meth cd D tc ρ b0 x0 u0 x1 u1 y) (Tok : en_Tok) (hX : y = mt_law → ∃ b, ρ en_S = b ∧ va_X b sc.1 sc.2 s s.heap ∧ b < s.heap.size ∧ ¬ b0 ≤ b) {d : Nat} (hR : d + 1 ≤ R.frames ∧ 40 * (d + 1) ≤ R.locals) {v1 : Option Value} {c1 : en_H}
    (hrel : ∀ y' As c x u v c' x' u', en_call d y' As c x u v c' x' u' → x' < en_S → en_M l D tc ρ b0 d y' As c x u v c' x' u')
    (hend : ∀ (f : en_F) (i : Jvm.ClassFile.Instr) (len : Nat), decode (mt_code y) f.1 = .ok (i, len) → (len = en_len i ∨ en_len i = 0) → en_step y i f.1 f.2.1 f.2.2.1 f.2.2.2.1 f.2.2.2.2.1 f.2.2.2.2.2 = some (.inr (.inl (v1, c1, x1, u1))) → en_A p l e R s m args below meth cd Q D tc ρ b0 x0 u0 x1 u1 y sc (f)) :
    ∀ (n : Nat) (f : en_F), en_wp (en_call d) y (en_q v1 c1 x1 u1) n f → en_A p l e R s m args below meth cd Q D tc ρ b0 x0 u0 x1 u1 y sc (f) := by
  intro n
  induction n with
  | zero => intro f h; exact h.elim
  | succ n ih =>
    intro f h
    obtain ⟨i, len, hd, hl, h3⟩ := h
    obtain ⟨pc, lv, st, c, x, u⟩ := f
    change en_nx (en_call d) _ _ c x u (en_step y i pc lv st c x u) at h3
    generalize ho : en_step y i pc lv st c x u = o at h3
    match o, h3 with
    | none, h3 => exact h3.elim
    | some (.inr (.inl r)), h3 =>
      obtain ⟨r1, r2, r3, r4⟩ := r
      obtain ⟨-, e1, e2, e3, e4⟩ := h3
      dsimp only at e1 e2 e3 e4
      subst e1 e2 e3 e4
      exact hend _ i len hd hl ho
    | some (.inl g), h3 =>
      obtain ⟨v2, c2, x2, u2, ⟨-, -, e3, e4⟩, k2, -⟩ := en_wp_path n g h3.2
      subst e3 e4
      exact en_one X Tok hX ⟨by omega, by omega⟩ hd hl ho k2.1 k2.2.1 (ih g h3.2)
    | some (.inr (.inr q)), h3 =>
      obtain ⟨v, c', x', u', g1, g2, g4⟩ := h3
      obtain ⟨v2, c2, x2, u2, ⟨-, -, e3, e4⟩, k2, -⟩ := en_wp_path n _ g4
      subst e3 e4
      exact en_onec X Tok hR hd hl ho (hrel _ _ _ _ _ _ _ _ _ g1 (Nat.lt_of_le_of_lt k2.1 X.2.2.1.2.2.1)) g2 k2.1 k2.2.1 (ih _ g4)
end ES5
theorem en_inv_nr {y n pc : Nat} {lv : en_L} {st : List Value} {c : en_H} {x : Nat} {r : Option Value × en_H × Nat × Nat} (ho : en_op (tb_mth (mt_cls y) n) (fun q => en_if (q.1 = 0) (en_inv pc lv st c x q) none) = some (.inr (.inl r))) : False := by
  obtain ⟨⟨kd, y', na, ci⟩, hq, ho1⟩ := en_op_inv ho
  obtain ⟨-, ho2⟩ := en_if_inv ho1
  obtain ⟨a, r, -, ho3⟩ := en_pr_inv ho2
  obtain ⟨-, ho4⟩ := en_if_inv ho3
  obtain ⟨ci', fs, -, ho5⟩ := en_ob_inv ho4
  obtain ⟨-, ho6⟩ := en_if_inv ho5
  cases (Sum.inr.inj (Option.some.inj ho6))
theorem en_ins_nr {y n pc : Nat} {lv : en_L} {st : List Value} {c : en_H} {x u : Nat} {r : Option Value × en_H × Nat × Nat} (ho : en_op (tb_mth (mt_cls y) n) (fun q => en_ins pc lv st c x u q) = some (.inr (.inl r))) : False := by
  obtain ⟨⟨kd, y', na, ci⟩, hq, ho1⟩ := en_op_inv ho
  match kd, ho1 with
  | 0, ho => exact en_abs ho
  | 1, ho =>
    obtain ⟨-, hk1⟩ := en_if_inv ho
    cases (Sum.inr.inj (Option.some.inj hk1))
  | 2, ho => exact en_abs ho
  | 3, ho => exact en_abs ho
  | 4, ho =>
    obtain ⟨a, b, r, -, hk1⟩ := en_p2_inv ho
    obtain ⟨-, hk2⟩ := en_if_inv hk1
    exact en_fr_no hk2
  | 5, ho =>
    obtain ⟨a, b, r, -, hk1⟩ := en_p2_inv ho
    obtain ⟨-, hk2⟩ := en_if_inv hk1
    exact en_fr_no hk2
  | 6, ho =>
    obtain ⟨a0, sp, a1, dp, n', r, -, hk1⟩ := en_cp_inv ho
    obtain ⟨t0, n0, f0, -, hk2⟩ := en_arI_inv hk1
    obtain ⟨t1, n1, f1, -, hk3⟩ := en_arI_inv hk2
    obtain ⟨-, hk4⟩ := en_if_inv hk3
    exact en_fr_no hk4
  | kd + 7, ho => exact en_abs ho
theorem en_inp_nr {y n pc : Nat} {lv : en_L} {st : List Value} {c : en_H} {x u : Nat} {r : Option Value × en_H × Nat × Nat} (ho : en_op (tb_mth (mt_cls y) n) (fun q => en_inp pc lv st c x u q) = some (.inr (.inl r))) : False := by
  obtain ⟨⟨kd, y', na, ci⟩, hq, ho1⟩ := en_op_inv ho
  match kd, ho1 with
  | 0, ho => exact en_abs ho
  | 1, ho => exact en_abs ho
  | 2, ho =>
    obtain ⟨a, r, -, hk1⟩ := en_pr_inv ho
    obtain ⟨-, hk2⟩ := en_if_inv hk1
    cases (Sum.inr.inj (Option.some.inj hk2))
  | 3, ho =>
    obtain ⟨a, r, -, hk1⟩ := en_pr_inv ho
    obtain ⟨-, hk2⟩ := en_if_inv hk1
    cases (Sum.inr.inj (Option.some.inj hk2))
  | 4, ho => exact en_abs ho
  | 5, ho => exact en_abs ho
  | 6, ho => exact en_abs ho
  | 7, ho =>
    obtain ⟨a, r, -, hk1⟩ := en_pr_inv ho
    obtain ⟨-, hk2⟩ := en_if_inv hk1
    exact en_fr_no hk2
  | kd + 8, ho => exact en_abs ho
theorem en_wp_x {rel : en_R} {y n pc : Nat} {lv : en_L} {st : List Value} {c c1 : en_H} {x u x1 u1 : Nat} {v1 : Option Value} (h : en_wp rel y (en_q v1 c1 x1 u1) n (pc, lv, st, c, x, u)) : x ≤ x1 ∧ u ≤ u1 := by
  obtain ⟨v2, c2, x2, u2, ⟨-, -, e3, e4⟩, k2, -⟩ := en_wp_path n _ h
  subst e3 e4
  exact ⟨k2.1, k2.2.1⟩
end
section
/-! THE ENGINE: a call of the abstract machine is a contract. -/
def en_okZ (y : Nat) : Prop := plainName (mt_name y).cls = true ∧ mt_cn (mt_cls y) = (mt_name y).cls ∧ (mt_init y = true → (mt_name y).name = "<init>") ∧ (mt_rk y = 0 → mt_ret y = none) ∧ (mt_rk y = 1 → mt_ret y = some .int) ∧ (mt_rk y = 2 → mt_ret y = some .boolean) ∧ (mt_rk y = 3 → ∃ rt, mt_ret y = some rt ∧ ((∃ n, rt = .object n) ∨ ∃ t, rt = .array t))
set_option maxHeartbeats 4000000 in
theorem en_end {p : Program} {l : Launch} {e : Env} {R : Room} {s : State} {m : MethodId} {args : Array Value} {below : List Frame} {meth : Method} {cd : Code} {D : va_G} {tc : Nat → ClassId} {ρ : Nat → Nat} {b0 x0 u0 x1 u1 y : Nat} {sc : Nat × (Nat → Int32)} (X : en_X p R s m args meth cd D tc ρ b0 x0 u0 x1 u1 y) (hZ : en_okZ y) (hr : meth.sig.returnType = mt_ret y) (hlocks : meth.locks = false) {v1 : Option Value} {c1 : en_H}
    (f : en_F) (i : Jvm.ClassFile.Instr) (len : Nat) (hd : decode (mt_code y) f.1 = .ok (i, len)) (hl : len = en_len i ∨ en_len i = 0) (ho : en_step y i f.1 f.2.1 f.2.2.1 f.2.2.2.1 f.2.2.2.2.1 f.2.2.2.2.2 = some (.inr (.inl (v1, c1, x1, u1)))) : en_A p l e R s m args below meth cd (MQ below (en_Qc D tc ρ b0 v1 c1 x1) args s (x1 - x0) (u1 - u0) (fun q => b0 ≤ q)) D tc ρ b0 x0 u0 x1 u1 y sc f := by
  obtain ⟨pc, lv, st, c, x, u⟩ := f
  dsimp only at hd ho
  obtain ⟨-, -, -, hz0, hz1, hz2, hz3⟩ := hZ
  cases i
  case ireturn =>
    have hd : decode (mt_code y) pc = .ok (.ireturn, 1) := en_hd hd hl (Nat.succ_ne_zero _)
    have ho : en_ret y st c x u = some (.inr (.inl (v1, c1, x1, u1))) := ho
    unfold en_ret at ho
    split at ho
    · rename_i a hold
      obtain ⟨hz, ho⟩ := en_if_inv ho
      have e1 := Sum.inl.inj (Sum.inr.inj (Option.some.inj ho))
      obtain ⟨rfl, rfl, rfl, rfl⟩ : some (Value.int a) = v1 ∧ c = c1 ∧ x = x1 ∧ u = u1 := ⟨congrArg (fun q => q.1) e1, congrArg (fun q => q.2.1) e1, congrArg (fun q => q.2.2.1) e1, congrArg (fun q => q.2.2.2) e1⟩
      intro k j H locs ls h1 h2 h3 h4 h5 h6 h7 h8 h9 h10
      have hx' : x = x0 + k := h1
      have hu' : u = u0 + j := h2
      obtain rfl : k = x - x0 := by omega
      obtain rfl : j = u - u0 := by omega
      rcases hz with hz | ⟨hz, ha⟩
      · exact W.zret (ty := .int) X.1.1 X.1.2.1 (hr.trans (hz1 hz)) rfl (fun t ht hW => ⟨rfl, by rw [ht]; exact h5, by rw [ht]; exact h6, h7.F ht⟩) h7.2.2 hd hlocks
      · exact W.zret (ty := .boolean) X.1.1 X.1.2.1 (hr.trans (hz2 hz)) (by rcases ha with rfl | rfl <;> rfl) (fun t ht hW => ⟨rfl, by rw [ht]; exact h5, by rw [ht]; exact h6, h7.F ht⟩) h7.2.2 hd hlocks
    · cases ho
  case areturn =>
    have hd : decode (mt_code y) pc = .ok (.areturn, 1) := en_hd hd hl (Nat.succ_ne_zero _)
    have ho : en_reta y st c x u = some (.inr (.inl (v1, c1, x1, u1))) := ho
    unfold en_reta at ho
    split at ho
    · rename_i a hold
      obtain ⟨hz, ho⟩ := en_if_inv ho
      have e1 := Sum.inl.inj (Sum.inr.inj (Option.some.inj ho))
      obtain ⟨rfl, rfl, rfl, rfl⟩ : some (Value.ref a) = v1 ∧ c = c1 ∧ x = x1 ∧ u = u1 := ⟨congrArg (fun q => q.1) e1, congrArg (fun q => q.2.1) e1, congrArg (fun q => q.2.2.1) e1, congrArg (fun q => q.2.2.2) e1⟩
      intro k j H locs ls h1 h2 h3 h4 h5 h6 h7 h8 h9 h10
      have hx' : x = x0 + k := h1
      have hu' : u = u0 + j := h2
      obtain rfl : k = x - x0 := by omega
      obtain rfl : j = u - u0 := by omega
      obtain ⟨rt, e2, e3⟩ := hz3 hz
      exact W.aret X.1.1 X.1.2.1 (hr.trans e2) e3 (Or.inr ⟨ρ a, rfl⟩) (fun t ht hW => ⟨rfl, by rw [ht]; exact h5, by rw [ht]; exact h6, h7.F ht⟩) h7.2.2 hd hlocks
    · cases ho
  case return_ =>
    have hd : decode (mt_code y) pc = .ok (.return_, 1) := en_hd hd hl (Nat.succ_ne_zero _)
    have ho : en_retv y st c x u = some (.inr (.inl (v1, c1, x1, u1))) := ho
    unfold en_retv at ho
    split at ho
    · obtain ⟨hz, ho⟩ := en_if_inv ho
      have e1 := Sum.inl.inj (Sum.inr.inj (Option.some.inj ho))
      obtain ⟨rfl, rfl, rfl, rfl⟩ : none = v1 ∧ c = c1 ∧ x = x1 ∧ u = u1 := ⟨congrArg (fun q => q.1) e1, congrArg (fun q => q.2.1) e1, congrArg (fun q => q.2.2.1) e1, congrArg (fun q => q.2.2.2) e1⟩
      intro k j H locs ls h1 h2 h3 h4 h5 h6 h7 h8 h9 h10
      have hx' : x = x0 + k := h1
      have hu' : u = u0 + j := h2
      obtain rfl : k = x - x0 := by omega
      obtain rfl : j = u - u0 := by omega
      exact W.vret X.1.1 X.1.2.1 (hr.trans (hz0 hz)) (fun t ht hW => ⟨rfl, by rw [ht]; exact h5, by rw [ht]; exact h6, h7.F ht⟩) h7.2.2 hd hlocks
    · cases ho
  case invokevirtual n => exact (en_inv_nr ho).elim
  case invokestatic n => exact (en_ins_nr ho).elim
  case invokespecial n => exact (en_inp_nr ho).elim
  all_goals refine absurd ho ((?_ : en_pn _) _)
  all_goals repeat' first | exact en_pn_fr | exact en_pn_0 | exact en_pn_tg | exact en_pn_sto | refine en_pn_op (fun _ => ?_) | refine en_pn_p1 (fun _ _ => ?_) | refine en_pn_p2 (fun _ _ _ => ?_) | refine en_pn_l2 (fun _ _ _ => ?_) | refine en_pn_li (fun _ _ _ => ?_) | refine en_pn_pr (fun _ _ => ?_) | refine en_pn_ir (fun _ _ _ => ?_) | refine en_pn_iir (fun _ _ _ _ => ?_) | refine en_pn_lir (fun _ _ _ _ => ?_) | refine en_pn_vr (fun _ _ _ => ?_) | refine en_pn_ldI (fun _ => ?_) | refine en_pn_ldA (fun _ => ?_) | refine en_pn_arI (fun _ _ _ => ?_) | refine en_pn_arL (fun _ _ _ => ?_) | refine en_pn_arN (fun _ _ => ?_) | refine en_pn_ob (fun _ _ => ?_) | refine en_pn_if ?_ ?_ | exact en_pn_st1 | exact en_pn_st2 | exact en_pn_st3
set_option maxHeartbeats 4000000 in
/-- SOUNDNESS: what the abstract machine calls, the machine's method meets -/
theorem en_sound (Tok : en_Tok) (TZ : ∀ y, y ≠ mt_law → en_okZ y) (l : Launch) (D : va_G) (tc : Nat → ClassId) (ρ : Nat → Nat) (b0 : Nat) (hρ : ∀ i, i < en_S → ρ i = b0 + i) : ∀ (d y : Nat) (As : List Value) (c : en_H) (x u : Nat) (v : Option Value) (c' : en_H) (x' u' : Nat), en_call d y As c x u v c' x' u' → x' < en_S → en_M l D tc ρ b0 d y As c x u v c' x' u' := by
  intro d
  induction d with
  | zero => intro y As c x u v c' x' u' h; exact h.elim
  | succ d ih =>
    intro y As c x u v c' x' u' h hxS
    obtain ⟨hy, h1, h2, n, hw⟩ := h
    have hZ := TZ y hy
    unfold en_M
    refine Met.ofW (cc := mt_code y) (maxL := mt_nl y) (ret := mt_ret y) hZ.1 rfl ?_
    intro p e s m args below meth cd s₁ B hml hv
    obtain ⟨rfl, hH, hP, hK, hN⟩ := hv
    have hts0 := atoms_spec (ws := en_mw y) B.pre
    have X : en_X p (headSpec (en_mw y) (en_room (d + 1) (x' - x) (u' - u))).room s m (As.map (en_cv ρ)).toArray meth cd D tc ρ b0 x u x' u' y :=
      ⟨⟨B.exec, B.bytes, hml, by rw [hZ.2.1]; exact findClass_of_methodNamed B.named, fun w hw => hts0 w (List.mem_cons_of_mem _ hw)⟩, ⟨hK, hN⟩, ⟨hρ, by rw [hH]; omega, hxS, Nat.le_refl _, Nat.le_refl _⟩, fun h => (name_of_methodNamed B.named B.method).1.trans (hZ.2.2.1 h)⟩
    rw [lg_entry_eq]
    exact en_main (sc := (0, fun _ => 0)) X Tok (fun q => absurd q hy) (d := d) ⟨Nat.le_refl _, Nat.le_refl _⟩ ih (fun f i len => en_end X hZ B.returns B.notSynchronized f i len) n _ hw 0 0 s.heap [] _ rfl rfl (en_wp_x hw).1 (en_wp_x hw).2 hH hP va_S.rf (en_entry h1 h2) (by show (en_lv0 y As).length = _; simp [en_lv0]; omega) (fun q => absurd q hy)
end
section
/-! THE TABLES ARE RIGHT: checks, by evaluation, and what they give. -/
def en_in (i : Nat) (w : Cond) : Bool := decide (lw_tbl[i]? = some w) && goodWord w
theorem en_in_ok {i : Nat} {w : Cond} (h : en_in i w = true) : w ∈ en_T0 := by
  unfold en_in at h
  rw [Bool.and_eq_true] at h
  exact List.mem_filter.mpr ⟨List.mem_of_getElem? (of_decide_eq_true h.1), h.2⟩
theorem en_zip {α β : Type} {l : List α} {m : List β} {a : α} (h : a ∈ l) (hl : l.length ≤ m.length) : ∃ b, (a, b) ∈ l.zip m := by
  induction l generalizing m with
  | nil => cases h
  | cons x l ih =>
    cases m with
    | nil => simp at hl
    | cons y m =>
      rcases List.mem_cons.mp h with rfl | h
      · exact ⟨y, List.mem_cons_self⟩
      · obtain ⟨b, hb⟩ := ih h (by simpa using hl)
        exact ⟨b, List.mem_cons_of_mem _ hb⟩
def en_ckC (e : vw_C × List Nat) : Bool := match e with
  | (r, ps) => decide (r.2.2 ≤ ps.length) && (List.range r.2.2).all (fun k => en_in (ps.getD k 0) (u_lay r.1 r.2.1 k)) && (List.range r.2.2).all (fun a => (List.range r.2.2).all (fun b => a == b || decide ((r.2.1 a).2.1 ≠ (r.2.1 b).2.1))) && (List.range r.2.2).all (fun k => (parseFieldDescriptor (r.2.1 k).2.2.1).isSome)
set_option maxRecDepth 100000 in
theorem en_ckC_all : (vwCl.zip tp_cls).all en_ckC = true := by decide +kernel
theorem en_cls {ci : Nat} {r : vw_C} (h : vwCl[ci]? = some r) : (∀ w ∈ u_ws r.1 r.2.1 r.2.2, w ∈ en_T0) ∧ (∀ a, a < r.2.2 → ∀ b, b < r.2.2 → a ≠ b → (r.2.1 a).2.1 ≠ (r.2.1 b).2.1) ∧ ∃ ty0 : Nat → FieldType, ∀ k, k < r.2.2 → parseFieldDescriptor (r.2.1 k).2.2.1 = some (ty0 k) := by
  obtain ⟨ps, hps⟩ := en_zip (m := tp_cls) (List.mem_of_getElem? h) (by decide)
  have h1 := List.all_eq_true.mp en_ckC_all _ hps
  unfold en_ckC at h1
  dsimp only at h1
  rw [Bool.and_eq_true, Bool.and_eq_true, Bool.and_eq_true] at h1
  obtain ⟨⟨⟨-, h1⟩, h2⟩, h3⟩ := h1
  refine ⟨fun w hw => ?_, fun a ha b hb hab => ?_, fun k => (parseFieldDescriptor (r.2.1 k).2.2.1).getD .int, fun k hk => ?_⟩
  · obtain ⟨k, hk, rfl⟩ := List.mem_map.mp hw
    exact en_in_ok (List.all_eq_true.mp h1 k hk)
  · have h4 := List.all_eq_true.mp (List.all_eq_true.mp h2 a (List.mem_range.mpr ha)) b (List.mem_range.mpr hb)
    rw [Bool.or_eq_true] at h4
    rcases h4 with h4 | h4
    · exact absurd (by simpa using h4) hab
    · exact of_decide_eq_true h4
  · have h4 := List.all_eq_true.mp h3 k (List.mem_range.mpr hk)
    cases h5 : parseFieldDescriptor (r.2.1 k).2.2.1 with
    | none => rw [h5] at h4; cases h4
    | some t => simp only [h5]; rfl
def en_kd (d : Option FieldType) (kd : Nat) : Bool := match d with
  | some .int => kd == 0
  | some .boolean => kd == 2
  | some (.object _) => kd == 1
  | some (.array _) => kd == 1
  | _ => false
def en_ckF (e : (Nat × Nat × Nat × Nat × Nat × Bool) × Nat) : Bool := match e with
  | ((o, n, ci, kf, kd, fin), i) => match vwCl[ci]? with
    | none => false
    | some r => decide (kf < r.2.2) && en_in i (Cond.fieldLink (mt_cn o) n (r.2.1 kf).1 (r.2.1 kf).2.1 (r.2.1 kf).2.2.1) && ((r.2.1 kf).2.2.2 == fin) && (!fin || kd == 9 || decide ((r.2.1 kf).1 = mt_cn o)) && (kd == 9 || en_kd (parseFieldDescriptor (r.2.1 kf).2.2.1) kd)
set_option maxRecDepth 100000 in
theorem en_ckF_all : (tb_flds.zip tp_flds).all en_ckF = true := by decide +kernel
theorem en_find {α : Type} {l : List (Nat × Nat × α)} {o n : Nat} {q : α} (h : (l.find? (fun e => e.1 == o && e.2.1 == n)).map (fun e => e.2.2) = some q) : (o, n, q) ∈ l := by
  cases hf : l.find? (fun e => e.1 == o && e.2.1 == n) with
  | none => rw [hf] at h; cases h
  | some e =>
    rw [hf] at h
    have h1 := List.mem_of_find?_eq_some hf
    have h2 := List.find?_some hf
    rw [Bool.and_eq_true] at h2
    obtain ⟨a, b, c⟩ := e
    have e1 : a = o := by simpa using h2.1
    have e2 : b = n := by simpa using h2.2
    have e3 : c = q := by simpa using h
    subst e1 e2 e3
    exact h1
theorem en_tokF : ∀ o n q, tb_fld o n = some q → en_okF o n q := by
  intro o n q h
  obtain ⟨ci, kf, kd, fin⟩ := q
  obtain ⟨i, hi⟩ := en_zip (m := tp_flds) (en_find h) (by decide +kernel)
  have h1 := List.all_eq_true.mp en_ckF_all _ hi
  unfold en_ckF at h1
  dsimp only at h1
  split at h1
  · cases h1
  · rename_i r hr
    rw [Bool.and_eq_true, Bool.and_eq_true, Bool.and_eq_true, Bool.and_eq_true] at h1
    obtain ⟨⟨⟨⟨h1, h2⟩, h3⟩, h4⟩, h5⟩ := h1
    obtain ⟨c1, c2, c3⟩ := en_cls hr
    refine ⟨r, hr, of_decide_eq_true h1, en_in_ok h2, c1, c2, c3, by simpa using h3, fun hf h9 => ?_, fun ty0 hty => ?_⟩
    · have hf : fin = true := hf
      rw [Bool.or_eq_true, Bool.or_eq_true] at h4
      rcases h4 with (h4 | h4) | h4
      · rw [hf] at h4; cases h4
      · exact absurd (show kd = 9 by simpa using h4) h9
      · exact of_decide_eq_true h4
    · rw [Bool.or_eq_true] at h5
      rcases h5 with h5 | h5
      · exact Or.inr (Or.inr (Or.inr (by simpa using h5)))
      have h6 := hty kf (of_decide_eq_true h1)
      show (kd = 0 ∧ ty0 kf = .int) ∨ (kd = 1 ∧ ((∃ n, ty0 kf = .object n) ∨ ∃ t, ty0 kf = .array t)) ∨ (kd = 2 ∧ ty0 kf = .boolean) ∨ kd = 9
      rw [h6] at h5
      cases h7 : ty0 kf <;> rw [h7] at h5
      case int => exact Or.inl ⟨by simpa [en_kd] using h5, rfl⟩
      case boolean => exact Or.inr (Or.inr (Or.inl ⟨by simpa [en_kd] using h5, rfl⟩))
      case object => exact Or.inr (Or.inl ⟨by simpa [en_kd] using h5, Or.inl ⟨_, rfl⟩⟩)
      case array => exact Or.inr (Or.inl ⟨by simpa [en_kd] using h5, Or.inr ⟨_, rfl⟩⟩)
      all_goals cases h5
def en_nr (v : Value) : Bool := match v with
  | .ref _ => false
  | _ => true
def en_ckN (e : (Nat × Nat × Nat × List Value) × List Nat) : Bool := match e with
  | ((o, n, ci, fs), ps) => match vwCl[ci]? with
    | none => false
    | some r => en_in (ps.getD 0 0) (Cond.classLink (mt_cn o) n r.1) && en_in (ps.getD 1 0) (Cond.instantiable r.1 r.2.2) && en_in (ps.getD 2 0) (Cond.initialized r.1) && (fs.length == r.2.2) && (List.range r.2.2).all (fun j => decide ((parseFieldDescriptor (r.2.1 j).2.2.1).map defaultValue = some (vp_V fs j))) && fs.all en_nr
set_option maxRecDepth 100000 in
theorem en_ckN_all : (tb_news.zip tp_news).all en_ckN = true := by decide +kernel
theorem en_tokN : ∀ o n q, tb_new o n = some q → en_okN o n q := by
  intro o n q h
  obtain ⟨ci, fs⟩ := q
  obtain ⟨i, hi⟩ := en_zip (m := tp_news) (en_find h) (by decide +kernel)
  have h1 := List.all_eq_true.mp en_ckN_all _ hi
  unfold en_ckN at h1
  dsimp only at h1
  split at h1
  · cases h1
  · rename_i r hr
    rw [Bool.and_eq_true, Bool.and_eq_true, Bool.and_eq_true, Bool.and_eq_true, Bool.and_eq_true] at h1
    obtain ⟨⟨⟨⟨⟨h1, h2⟩, h3⟩, h4⟩, h5⟩, h6⟩ := h1
    obtain ⟨c1, c2, c3⟩ := en_cls hr
    refine ⟨r, hr, en_in_ok h1, en_in_ok h2, en_in_ok h3, c1, c3, by simpa using h4, fun ty0 hty j hj => ?_, fun ρ v hv => ?_⟩
    · have h7 := of_decide_eq_true (List.all_eq_true.mp h5 j (List.mem_range.mpr hj))
      rw [hty j hj] at h7
      exact Option.some.inj h7
    · have h7 := List.all_eq_true.mp h6 v hv
      cases v <;> first | rfl | cases h7
def en_ckY (y : Nat) : Bool := en_in (tp_y.getD y (0, 0)).2 (Cond.initialized (mt_name y).cls) && decide ((mt_name y).cls ≠ "java/lang/invoke/MethodHandle" ∧ (mt_name y).cls ≠ "java/lang/invoke/VarHandle") && decide (mt_nl y ≤ 21)
set_option maxRecDepth 100000 in
theorem en_ckY_all : (List.range mt_law).all en_ckY = true := by decide +kernel
set_option maxRecDepth 100000 in
theorem en_cw0 : Cond.code (mt_name 0) (mt_code 0) (mt_nl 0) (mt_ret 0) ∈ en_T0 := List.mem_filter.mpr ⟨List.mem_of_getElem? (i := 54) rfl, rfl⟩
set_option maxRecDepth 100000 in
theorem en_cw1 : Cond.code (mt_name 1) (mt_code 1) (mt_nl 1) (mt_ret 1) ∈ en_T0 := List.mem_filter.mpr ⟨List.mem_of_getElem? (i := 184) rfl, rfl⟩
set_option maxRecDepth 100000 in
theorem en_cw2 : Cond.code (mt_name 2) (mt_code 2) (mt_nl 2) (mt_ret 2) ∈ en_T0 := List.mem_filter.mpr ⟨List.mem_of_getElem? (i := 192) rfl, rfl⟩
set_option maxRecDepth 100000 in
theorem en_cw3 : Cond.code (mt_name 3) (mt_code 3) (mt_nl 3) (mt_ret 3) ∈ en_T0 := List.mem_filter.mpr ⟨List.mem_of_getElem? (i := 213) rfl, rfl⟩
set_option maxRecDepth 100000 in
theorem en_cw4 : Cond.code (mt_name 4) (mt_code 4) (mt_nl 4) (mt_ret 4) ∈ en_T0 := List.mem_filter.mpr ⟨List.mem_of_getElem? (i := 274) rfl, rfl⟩
set_option maxRecDepth 100000 in
theorem en_cw5 : Cond.code (mt_name 5) (mt_code 5) (mt_nl 5) (mt_ret 5) ∈ en_T0 := List.mem_filter.mpr ⟨List.mem_of_getElem? (i := 318) rfl, rfl⟩
set_option maxRecDepth 100000 in
theorem en_cw6 : Cond.code (mt_name 6) (mt_code 6) (mt_nl 6) (mt_ret 6) ∈ en_T0 := List.mem_filter.mpr ⟨List.mem_of_getElem? (i := 330) rfl, rfl⟩
set_option maxRecDepth 100000 in
theorem en_cw7 : Cond.code (mt_name 7) (mt_code 7) (mt_nl 7) (mt_ret 7) ∈ en_T0 := List.mem_filter.mpr ⟨List.mem_of_getElem? (i := 342) rfl, rfl⟩
set_option maxRecDepth 100000 in
theorem en_cw8 : Cond.code (mt_name 8) (mt_code 8) (mt_nl 8) (mt_ret 8) ∈ en_T0 := List.mem_filter.mpr ⟨List.mem_of_getElem? (i := 364) rfl, rfl⟩
set_option maxRecDepth 100000 in
theorem en_cw9 : Cond.code (mt_name 9) (mt_code 9) (mt_nl 9) (mt_ret 9) ∈ en_T0 := List.mem_filter.mpr ⟨List.mem_of_getElem? (i := 370) rfl, rfl⟩
set_option maxRecDepth 100000 in
theorem en_cw10 : Cond.code (mt_name 10) (mt_code 10) (mt_nl 10) (mt_ret 10) ∈ en_T0 := List.mem_filter.mpr ⟨List.mem_of_getElem? (i := 376) rfl, rfl⟩
set_option maxRecDepth 100000 in
theorem en_cw11 : Cond.code (mt_name 11) (mt_code 11) (mt_nl 11) (mt_ret 11) ∈ en_T0 := List.mem_filter.mpr ⟨List.mem_of_getElem? (i := 404) rfl, rfl⟩
set_option maxRecDepth 100000 in
theorem en_cw12 : Cond.code (mt_name 12) (mt_code 12) (mt_nl 12) (mt_ret 12) ∈ en_T0 := List.mem_filter.mpr ⟨List.mem_of_getElem? (i := 434) rfl, rfl⟩
set_option maxRecDepth 100000 in
theorem en_cw13 : Cond.code (mt_name 13) (mt_code 13) (mt_nl 13) (mt_ret 13) ∈ en_T0 := List.mem_filter.mpr ⟨List.mem_of_getElem? (i := 456) rfl, rfl⟩
set_option maxRecDepth 100000 in
theorem en_cw14 : Cond.code (mt_name 14) (mt_code 14) (mt_nl 14) (mt_ret 14) ∈ en_T0 := List.mem_filter.mpr ⟨List.mem_of_getElem? (i := 465) rfl, rfl⟩
set_option maxRecDepth 100000 in
theorem en_cw15 : Cond.code (mt_name 15) (mt_code 15) (mt_nl 15) (mt_ret 15) ∈ en_T0 := List.mem_filter.mpr ⟨List.mem_of_getElem? (i := 469) rfl, rfl⟩
set_option maxRecDepth 100000 in
theorem en_cw16 : Cond.code (mt_name 16) (mt_code 16) (mt_nl 16) (mt_ret 16) ∈ en_T0 := List.mem_filter.mpr ⟨List.mem_of_getElem? (i := 473) rfl, rfl⟩
set_option maxRecDepth 100000 in
theorem en_cw17 : Cond.code (mt_name 17) (mt_code 17) (mt_nl 17) (mt_ret 17) ∈ en_T0 := List.mem_filter.mpr ⟨List.mem_of_getElem? (i := 478) rfl, rfl⟩
set_option maxRecDepth 100000 in
theorem en_cw18 : Cond.code (mt_name 18) (mt_code 18) (mt_nl 18) (mt_ret 18) ∈ en_T0 := List.mem_filter.mpr ⟨List.mem_of_getElem? (i := 482) rfl, rfl⟩
set_option maxRecDepth 100000 in
theorem en_cw19 : Cond.code (mt_name 19) (mt_code 19) (mt_nl 19) (mt_ret 19) ∈ en_T0 := List.mem_filter.mpr ⟨List.mem_of_getElem? (i := 487) rfl, rfl⟩
set_option maxRecDepth 100000 in
theorem en_cw20 : Cond.code (mt_name 20) (mt_code 20) (mt_nl 20) (mt_ret 20) ∈ en_T0 := List.mem_filter.mpr ⟨List.mem_of_getElem? (i := 491) rfl, rfl⟩
set_option maxRecDepth 100000 in
theorem en_cw21 : Cond.code (mt_name 21) (mt_code 21) (mt_nl 21) (mt_ret 21) ∈ en_T0 := List.mem_filter.mpr ⟨List.mem_of_getElem? (i := 499) rfl, rfl⟩
set_option maxRecDepth 100000 in
theorem en_cw22 : Cond.code (mt_name 22) (mt_code 22) (mt_nl 22) (mt_ret 22) ∈ en_T0 := List.mem_filter.mpr ⟨List.mem_of_getElem? (i := 503) rfl, rfl⟩
set_option maxRecDepth 100000 in
theorem en_cw23 : Cond.code (mt_name 23) (mt_code 23) (mt_nl 23) (mt_ret 23) ∈ en_T0 := List.mem_filter.mpr ⟨List.mem_of_getElem? (i := 507) rfl, rfl⟩
set_option maxRecDepth 100000 in
theorem en_cw24 : Cond.code (mt_name 24) (mt_code 24) (mt_nl 24) (mt_ret 24) ∈ en_T0 := List.mem_filter.mpr ⟨List.mem_of_getElem? (i := 511) rfl, rfl⟩
set_option maxRecDepth 100000 in
theorem en_cw25 : Cond.code (mt_name 25) (mt_code 25) (mt_nl 25) (mt_ret 25) ∈ en_T0 := List.mem_filter.mpr ⟨List.mem_of_getElem? (i := 516) rfl, rfl⟩
set_option maxRecDepth 100000 in
theorem en_cw26 : Cond.code (mt_name 26) (mt_code 26) (mt_nl 26) (mt_ret 26) ∈ en_T0 := List.mem_filter.mpr ⟨List.mem_of_getElem? (i := 86) rfl, rfl⟩
set_option maxRecDepth 100000 in
theorem en_cw27 : Cond.code (mt_name 27) (mt_code 27) (mt_nl 27) (mt_ret 27) ∈ en_T0 := List.mem_filter.mpr ⟨List.mem_of_getElem? (i := 200) rfl, rfl⟩
set_option maxRecDepth 100000 in
theorem en_cw28 : Cond.code (mt_name 28) (mt_code 28) (mt_nl 28) (mt_ret 28) ∈ en_T0 := List.mem_filter.mpr ⟨List.mem_of_getElem? (i := 204) rfl, rfl⟩
set_option maxRecDepth 100000 in
theorem en_cw29 : Cond.code (mt_name 29) (mt_code 29) (mt_nl 29) (mt_ret 29) ∈ en_T0 := List.mem_filter.mpr ⟨List.mem_of_getElem? (i := 208) rfl, rfl⟩
set_option maxRecDepth 100000 in
theorem en_cw30 : Cond.code (mt_name 30) (mt_code 30) (mt_nl 30) (mt_ret 30) ∈ en_T0 := List.mem_filter.mpr ⟨List.mem_of_getElem? (i := 229) rfl, rfl⟩
set_option maxRecDepth 100000 in
theorem en_cw31 : Cond.code (mt_name 31) (mt_code 31) (mt_nl 31) (mt_ret 31) ∈ en_T0 := List.mem_filter.mpr ⟨List.mem_of_getElem? (i := 233) rfl, rfl⟩
set_option maxRecDepth 100000 in
theorem en_cw32 : Cond.code (mt_name 32) (mt_code 32) (mt_nl 32) (mt_ret 32) ∈ en_T0 := List.mem_filter.mpr ⟨List.mem_of_getElem? (i := 250) rfl, rfl⟩
set_option maxRecDepth 100000 in
theorem en_cw33 : Cond.code (mt_name 33) (mt_code 33) (mt_nl 33) (mt_ret 33) ∈ en_T0 := List.mem_filter.mpr ⟨List.mem_of_getElem? (i := 254) rfl, rfl⟩
set_option maxRecDepth 100000 in
theorem en_cw34 : Cond.code (mt_name 34) (mt_code 34) (mt_nl 34) (mt_ret 34) ∈ en_T0 := List.mem_filter.mpr ⟨List.mem_of_getElem? (i := 298) rfl, rfl⟩
set_option maxRecDepth 100000 in
theorem en_cw35 : Cond.code (mt_name 35) (mt_code 35) (mt_nl 35) (mt_ret 35) ∈ en_T0 := List.mem_filter.mpr ⟨List.mem_of_getElem? (i := 396) rfl, rfl⟩
set_option maxRecDepth 100000 in
theorem en_cw36 : Cond.code (mt_name 36) (mt_code 36) (mt_nl 36) (mt_ret 36) ∈ en_T0 := List.mem_filter.mpr ⟨List.mem_of_getElem? (i := 400) rfl, rfl⟩
set_option maxRecDepth 100000 in
theorem en_cw37 : Cond.code (mt_name 37) (mt_code 37) (mt_nl 37) (mt_ret 37) ∈ en_T0 := List.mem_filter.mpr ⟨List.mem_of_getElem? (i := 412) rfl, rfl⟩
set_option maxRecDepth 100000 in
theorem en_cw38 : Cond.code (mt_name 38) (mt_code 38) (mt_nl 38) (mt_ret 38) ∈ en_T0 := List.mem_filter.mpr ⟨List.mem_of_getElem? (i := 429) rfl, rfl⟩
set_option maxRecDepth 100000 in
theorem en_cw39 : Cond.code (mt_name 39) (mt_code 39) (mt_nl 39) (mt_ret 39) ∈ en_T0 := List.mem_filter.mpr ⟨List.mem_of_getElem? (i := 438) rfl, rfl⟩
set_option maxRecDepth 100000 in
theorem en_cw40 : Cond.code (mt_name 40) (mt_code 40) (mt_nl 40) (mt_ret 40) ∈ en_T0 := List.mem_filter.mpr ⟨List.mem_of_getElem? (i := 442) rfl, rfl⟩
set_option maxRecDepth 100000 in
theorem en_cw41 : Cond.code (mt_name 41) (mt_code 41) (mt_nl 41) (mt_ret 41) ∈ en_T0 := List.mem_filter.mpr ⟨List.mem_of_getElem? (i := 448) rfl, rfl⟩
set_option maxRecDepth 100000 in
theorem en_cw42 : Cond.code (mt_name 42) (mt_code 42) (mt_nl 42) (mt_ret 42) ∈ en_T0 := List.mem_filter.mpr ⟨List.mem_of_getElem? (i := 452) rfl, rfl⟩
set_option maxRecDepth 100000 in
theorem en_cw43 : Cond.code (mt_name 43) (mt_code 43) (mt_nl 43) (mt_ret 43) ∈ en_T0 := List.mem_filter.mpr ⟨List.mem_of_getElem? (i := 460) rfl, rfl⟩
set_option maxRecDepth 100000 in
theorem en_cw44 : Cond.code (mt_name 44) (mt_code 44) (mt_nl 44) (mt_ret 44) ∈ en_T0 := List.mem_filter.mpr ⟨List.mem_of_getElem? (i := 521) rfl, rfl⟩
set_option maxRecDepth 100000 in
theorem en_cw45 : Cond.code (mt_name 45) (mt_code 45) (mt_nl 45) (mt_ret 45) ∈ en_T0 := List.mem_filter.mpr ⟨List.mem_of_getElem? (i := 62) rfl, rfl⟩
set_option maxRecDepth 100000 in
theorem en_cw46 : Cond.code (mt_name 46) (mt_code 46) (mt_nl 46) (mt_ret 46) ∈ en_T0 := List.mem_filter.mpr ⟨List.mem_of_getElem? (i := 188) rfl, rfl⟩
set_option maxRecDepth 100000 in
theorem en_cw47 : Cond.code (mt_name 47) (mt_code 47) (mt_nl 47) (mt_ret 47) ∈ en_T0 := List.mem_filter.mpr ⟨List.mem_of_getElem? (i := 221) rfl, rfl⟩
set_option maxRecDepth 100000 in
theorem en_cw48 : Cond.code (mt_name 48) (mt_code 48) (mt_nl 48) (mt_ret 48) ∈ en_T0 := List.mem_filter.mpr ⟨List.mem_of_getElem? (i := 237) rfl, rfl⟩
set_option maxRecDepth 100000 in
theorem en_cw49 : Cond.code (mt_name 49) (mt_code 49) (mt_nl 49) (mt_ret 49) ∈ en_T0 := List.mem_filter.mpr ⟨List.mem_of_getElem? (i := 246) rfl, rfl⟩
set_option maxRecDepth 100000 in
theorem en_cw50 : Cond.code (mt_name 50) (mt_code 50) (mt_nl 50) (mt_ret 50) ∈ en_T0 := List.mem_filter.mpr ⟨List.mem_of_getElem? (i := 346) rfl, rfl⟩
set_option maxRecDepth 100000 in
theorem en_cw51 : Cond.code (mt_name 51) (mt_code 51) (mt_nl 51) (mt_ret 51) ∈ en_T0 := List.mem_filter.mpr ⟨List.mem_of_getElem? (i := 350) rfl, rfl⟩
set_option maxRecDepth 100000 in
theorem en_cw52 : Cond.code (mt_name 52) (mt_code 52) (mt_nl 52) (mt_ret 52) ∈ en_T0 := List.mem_filter.mpr ⟨List.mem_of_getElem? (i := 355) rfl, rfl⟩
set_option maxRecDepth 100000 in
theorem en_cw53 : Cond.code (mt_name 53) (mt_code 53) (mt_nl 53) (mt_ret 53) ∈ en_T0 := List.mem_filter.mpr ⟨List.mem_of_getElem? (i := 358) rfl, rfl⟩
set_option maxRecDepth 100000 in
theorem en_cw54 : Cond.code (mt_name 54) (mt_code 54) (mt_nl 54) (mt_ret 54) ∈ en_T0 := List.mem_filter.mpr ⟨List.mem_of_getElem? (i := 495) rfl, rfl⟩
set_option maxRecDepth 100000 in
theorem en_cw55 : Cond.code (mt_name 55) (mt_code 55) (mt_nl 55) (mt_ret 55) ∈ en_T0 := List.mem_filter.mpr ⟨List.mem_of_getElem? (i := 80) rfl, rfl⟩
set_option maxRecDepth 100000 in
theorem en_cw56 : Cond.code (mt_name 56) (mt_code 56) (mt_nl 56) (mt_ret 56) ∈ en_T0 := List.mem_filter.mpr ⟨List.mem_of_getElem? (i := 196) rfl, rfl⟩
set_option maxRecDepth 100000 in
theorem en_cw57 : Cond.code (mt_name 57) (mt_code 57) (mt_nl 57) (mt_ret 57) ∈ en_T0 := List.mem_filter.mpr ⟨List.mem_of_getElem? (i := 217) rfl, rfl⟩
set_option maxRecDepth 100000 in
theorem en_cw58 : Cond.code (mt_name 58) (mt_code 58) (mt_nl 58) (mt_ret 58) ∈ en_T0 := List.mem_filter.mpr ⟨List.mem_of_getElem? (i := 225) rfl, rfl⟩
set_option maxRecDepth 100000 in
theorem en_cw59 : Cond.code (mt_name 59) (mt_code 59) (mt_nl 59) (mt_ret 59) ∈ en_T0 := List.mem_filter.mpr ⟨List.mem_of_getElem? (i := 241) rfl, rfl⟩
set_option maxRecDepth 100000 in
theorem en_cw60 : Cond.code (mt_name 60) (mt_code 60) (mt_nl 60) (mt_ret 60) ∈ en_T0 := List.mem_filter.mpr ⟨List.mem_of_getElem? (i := 278) rfl, rfl⟩
set_option maxRecDepth 100000 in
theorem en_cw61 : Cond.code (mt_name 61) (mt_code 61) (mt_nl 61) (mt_ret 61) ∈ en_T0 := List.mem_filter.mpr ⟨List.mem_of_getElem? (i := 282) rfl, rfl⟩
set_option maxRecDepth 100000 in
theorem en_cw62 : Cond.code (mt_name 62) (mt_code 62) (mt_nl 62) (mt_ret 62) ∈ en_T0 := List.mem_filter.mpr ⟨List.mem_of_getElem? (i := 286) rfl, rfl⟩
set_option maxRecDepth 100000 in
theorem en_cw63 : Cond.code (mt_name 63) (mt_code 63) (mt_nl 63) (mt_ret 63) ∈ en_T0 := List.mem_filter.mpr ⟨List.mem_of_getElem? (i := 290) rfl, rfl⟩
set_option maxRecDepth 100000 in
theorem en_cw64 : Cond.code (mt_name 64) (mt_code 64) (mt_nl 64) (mt_ret 64) ∈ en_T0 := List.mem_filter.mpr ⟨List.mem_of_getElem? (i := 294) rfl, rfl⟩
set_option maxRecDepth 100000 in
theorem en_cw65 : Cond.code (mt_name 65) (mt_code 65) (mt_nl 65) (mt_ret 65) ∈ en_T0 := List.mem_filter.mpr ⟨List.mem_of_getElem? (i := 302) rfl, rfl⟩
set_option maxRecDepth 100000 in
theorem en_cw66 : Cond.code (mt_name 66) (mt_code 66) (mt_nl 66) (mt_ret 66) ∈ en_T0 := List.mem_filter.mpr ⟨List.mem_of_getElem? (i := 306) rfl, rfl⟩
set_option maxRecDepth 100000 in
theorem en_cw67 : Cond.code (mt_name 67) (mt_code 67) (mt_nl 67) (mt_ret 67) ∈ en_T0 := List.mem_filter.mpr ⟨List.mem_of_getElem? (i := 310) rfl, rfl⟩
set_option maxRecDepth 100000 in
theorem en_cw68 : Cond.code (mt_name 68) (mt_code 68) (mt_nl 68) (mt_ret 68) ∈ en_T0 := List.mem_filter.mpr ⟨List.mem_of_getElem? (i := 314) rfl, rfl⟩
set_option maxRecDepth 100000 in
theorem en_cw69 : Cond.code (mt_name 69) (mt_code 69) (mt_nl 69) (mt_ret 69) ∈ en_T0 := List.mem_filter.mpr ⟨List.mem_of_getElem? (i := 322) rfl, rfl⟩
set_option maxRecDepth 100000 in
theorem en_cw70 : Cond.code (mt_name 70) (mt_code 70) (mt_nl 70) (mt_ret 70) ∈ en_T0 := List.mem_filter.mpr ⟨List.mem_of_getElem? (i := 326) rfl, rfl⟩
set_option maxRecDepth 100000 in
theorem en_cw71 : Cond.code (mt_name 71) (mt_code 71) (mt_nl 71) (mt_ret 71) ∈ en_T0 := List.mem_filter.mpr ⟨List.mem_of_getElem? (i := 334) rfl, rfl⟩
set_option maxRecDepth 100000 in
theorem en_cw72 : Cond.code (mt_name 72) (mt_code 72) (mt_nl 72) (mt_ret 72) ∈ en_T0 := List.mem_filter.mpr ⟨List.mem_of_getElem? (i := 338) rfl, rfl⟩
set_option maxRecDepth 100000 in
theorem en_cw73 : Cond.code (mt_name 73) (mt_code 73) (mt_nl 73) (mt_ret 73) ∈ en_T0 := List.mem_filter.mpr ⟨List.mem_of_getElem? (i := 136) rfl, rfl⟩
set_option maxRecDepth 100000 in
theorem en_cw74 : Cond.code (mt_name 74) (mt_code 74) (mt_nl 74) (mt_ret 74) ∈ en_T0 := List.mem_filter.mpr ⟨List.mem_of_getElem? (i := 381) rfl, rfl⟩
set_option maxRecDepth 100000 in
theorem en_cw75 : Cond.code (mt_name 75) (mt_code 75) (mt_nl 75) (mt_ret 75) ∈ en_T0 := List.mem_filter.mpr ⟨List.mem_of_getElem? (i := 388) rfl, rfl⟩
set_option maxRecDepth 100000 in
theorem en_cw76 : Cond.code (mt_name 76) (mt_code 76) (mt_nl 76) (mt_ret 76) ∈ en_T0 := List.mem_filter.mpr ⟨List.mem_of_getElem? (i := 392) rfl, rfl⟩
set_option maxRecDepth 100000 in
theorem en_cw77 : Cond.code (mt_name 77) (mt_code 77) (mt_nl 77) (mt_ret 77) ∈ en_T0 := List.mem_filter.mpr ⟨List.mem_of_getElem? (i := 408) rfl, rfl⟩
set_option maxRecDepth 100000 in
theorem en_cw78 : Cond.code (mt_name 78) (mt_code 78) (mt_nl 78) (mt_ret 78) ∈ en_T0 := List.mem_filter.mpr ⟨List.mem_of_getElem? (i := 419) rfl, rfl⟩
set_option maxRecDepth 100000 in
theorem en_cw79 : Cond.code (mt_name 79) (mt_code 79) (mt_nl 79) (mt_ret 79) ∈ en_T0 := List.mem_filter.mpr ⟨List.mem_of_getElem? (i := 424) rfl, rfl⟩
set_option maxRecDepth 100000 in
theorem en_cw80 : Cond.code (mt_name 80) (mt_code 80) (mt_nl 80) (mt_ret 80) ∈ en_T0 := List.mem_filter.mpr ⟨List.mem_of_getElem? (i := 526) rfl, rfl⟩
set_option maxRecDepth 100000 in
theorem en_cw81 : Cond.code (mt_name 81) (mt_code 81) (mt_nl 81) (mt_ret 81) ∈ en_T0 := List.mem_filter.mpr ⟨List.mem_of_getElem? (i := 605) rfl, rfl⟩
set_option maxRecDepth 100000 in
theorem en_cw82 : Cond.code (mt_name 82) (mt_code 82) (mt_nl 82) (mt_ret 82) ∈ en_T0 := List.mem_filter.mpr ⟨List.mem_of_getElem? (i := 609) rfl, rfl⟩
set_option maxRecDepth 100000 in
theorem en_cw83 : Cond.code (mt_name 83) (mt_code 83) (mt_nl 83) (mt_ret 83) ∈ en_T0 := List.mem_filter.mpr ⟨List.mem_of_getElem? (i := 613) rfl, rfl⟩
set_option maxRecDepth 100000 in
theorem en_cw84 : Cond.code (mt_name 84) (mt_code 84) (mt_nl 84) (mt_ret 84) ∈ en_T0 := List.mem_filter.mpr ⟨List.mem_of_getElem? (i := 617) rfl, rfl⟩
set_option maxRecDepth 100000 in
theorem en_cw85 : Cond.code (mt_name 85) (mt_code 85) (mt_nl 85) (mt_ret 85) ∈ en_T0 := List.mem_filter.mpr ⟨List.mem_of_getElem? (i := 621) rfl, rfl⟩
set_option maxRecDepth 100000 in
theorem en_cw86 : Cond.code (mt_name 86) (mt_code 86) (mt_nl 86) (mt_ret 86) ∈ en_T0 := List.mem_filter.mpr ⟨List.mem_of_getElem? (i := 625) rfl, rfl⟩
set_option maxRecDepth 100000 in
theorem en_cw87 : Cond.code (mt_name 87) (mt_code 87) (mt_nl 87) (mt_ret 87) ∈ en_T0 := List.mem_filter.mpr ⟨List.mem_of_getElem? (i := 629) rfl, rfl⟩
set_option maxRecDepth 100000 in
theorem en_cw88 : Cond.code (mt_name 88) (mt_code 88) (mt_nl 88) (mt_ret 88) ∈ en_T0 := List.mem_filter.mpr ⟨List.mem_of_getElem? (i := 633) rfl, rfl⟩
set_option maxRecDepth 100000 in
theorem en_cw89 : Cond.code (mt_name 89) (mt_code 89) (mt_nl 89) (mt_ret 89) ∈ en_T0 := List.mem_filter.mpr ⟨List.mem_of_getElem? (i := 637) rfl, rfl⟩
set_option maxRecDepth 100000 in
theorem en_cw90 : Cond.code (mt_name 90) (mt_code 90) (mt_nl 90) (mt_ret 90) ∈ en_T0 := List.mem_filter.mpr ⟨List.mem_of_getElem? (i := 641) rfl, rfl⟩
set_option maxRecDepth 100000 in
theorem en_cw91 : Cond.code (mt_name 91) (mt_code 91) (mt_nl 91) (mt_ret 91) ∈ en_T0 := List.mem_filter.mpr ⟨List.mem_of_getElem? (i := 645) rfl, rfl⟩
set_option maxRecDepth 100000 in
theorem en_cw92 : Cond.code (mt_name 92) (mt_code 92) (mt_nl 92) (mt_ret 92) ∈ en_T0 := List.mem_filter.mpr ⟨List.mem_of_getElem? (i := 649) rfl, rfl⟩
set_option maxRecDepth 100000 in
theorem en_cw93 : Cond.code (mt_name 93) (mt_code 93) (mt_nl 93) (mt_ret 93) ∈ en_T0 := List.mem_filter.mpr ⟨List.mem_of_getElem? (i := 653) rfl, rfl⟩
set_option maxRecDepth 100000 in
theorem en_cw94 : Cond.code (mt_name 94) (mt_code 94) (mt_nl 94) (mt_ret 94) ∈ en_T0 := List.mem_filter.mpr ⟨List.mem_of_getElem? (i := 657) rfl, rfl⟩
set_option maxRecDepth 100000 in
theorem en_cw95 : Cond.code (mt_name 95) (mt_code 95) (mt_nl 95) (mt_ret 95) ∈ en_T0 := List.mem_filter.mpr ⟨List.mem_of_getElem? (i := 661) rfl, rfl⟩
set_option maxRecDepth 100000 in
theorem en_cw96 : Cond.code (mt_name 96) (mt_code 96) (mt_nl 96) (mt_ret 96) ∈ en_T0 := List.mem_filter.mpr ⟨List.mem_of_getElem? (i := 665) rfl, rfl⟩
set_option maxRecDepth 100000 in
theorem en_cw97 : Cond.code (mt_name 97) (mt_code 97) (mt_nl 97) (mt_ret 97) ∈ en_T0 := List.mem_filter.mpr ⟨List.mem_of_getElem? (i := 669) rfl, rfl⟩
set_option maxRecDepth 100000 in
theorem en_cw98 : Cond.code (mt_name 98) (mt_code 98) (mt_nl 98) (mt_ret 98) ∈ en_T0 := List.mem_filter.mpr ⟨List.mem_of_getElem? (i := 673) rfl, rfl⟩
set_option maxRecDepth 100000 in
theorem en_cw99 : Cond.code (mt_name 99) (mt_code 99) (mt_nl 99) (mt_ret 99) ∈ en_T0 := List.mem_filter.mpr ⟨List.mem_of_getElem? (i := 677) rfl, rfl⟩
set_option maxRecDepth 100000 in
theorem en_cw100 : Cond.code (mt_name 100) (mt_code 100) (mt_nl 100) (mt_ret 100) ∈ en_T0 := List.mem_filter.mpr ⟨List.mem_of_getElem? (i := 681) rfl, rfl⟩
set_option maxRecDepth 100000 in
theorem en_cw101 : Cond.code (mt_name 101) (mt_code 101) (mt_nl 101) (mt_ret 101) ∈ en_T0 := List.mem_filter.mpr ⟨List.mem_of_getElem? (i := 685) rfl, rfl⟩
set_option maxRecDepth 100000 in
theorem en_cw102 : Cond.code (mt_name 102) (mt_code 102) (mt_nl 102) (mt_ret 102) ∈ en_T0 := List.mem_filter.mpr ⟨List.mem_of_getElem? (i := 689) rfl, rfl⟩
set_option maxRecDepth 100000 in
theorem en_cw103 : Cond.code (mt_name 103) (mt_code 103) (mt_nl 103) (mt_ret 103) ∈ en_T0 := List.mem_filter.mpr ⟨List.mem_of_getElem? (i := 693) rfl, rfl⟩
set_option maxRecDepth 100000 in
theorem en_cw104 : Cond.code (mt_name 104) (mt_code 104) (mt_nl 104) (mt_ret 104) ∈ en_T0 := List.mem_filter.mpr ⟨List.mem_of_getElem? (i := 697) rfl, rfl⟩
set_option maxRecDepth 100000 in
theorem en_cw105 : Cond.code (mt_name 105) (mt_code 105) (mt_nl 105) (mt_ret 105) ∈ en_T0 := List.mem_filter.mpr ⟨List.mem_of_getElem? (i := 702) rfl, rfl⟩
set_option maxRecDepth 100000 in
theorem en_cw106 : Cond.code (mt_name 106) (mt_code 106) (mt_nl 106) (mt_ret 106) ∈ en_T0 := List.mem_filter.mpr ⟨List.mem_of_getElem? (i := 706) rfl, rfl⟩
set_option maxRecDepth 100000 in
theorem en_cw107 : Cond.code (mt_name 107) (mt_code 107) (mt_nl 107) (mt_ret 107) ∈ en_T0 := List.mem_filter.mpr ⟨List.mem_of_getElem? (i := 710) rfl, rfl⟩
set_option maxRecDepth 100000 in
theorem en_cw108 : Cond.code (mt_name 108) (mt_code 108) (mt_nl 108) (mt_ret 108) ∈ en_T0 := List.mem_filter.mpr ⟨List.mem_of_getElem? (i := 714) rfl, rfl⟩
set_option maxRecDepth 100000 in
theorem en_cw109 : Cond.code (mt_name 109) (mt_code 109) (mt_nl 109) (mt_ret 109) ∈ en_T0 := List.mem_filter.mpr ⟨List.mem_of_getElem? (i := 718) rfl, rfl⟩
set_option maxRecDepth 100000 in
theorem en_cw110 : Cond.code (mt_name 110) (mt_code 110) (mt_nl 110) (mt_ret 110) ∈ en_T0 := List.mem_filter.mpr ⟨List.mem_of_getElem? (i := 722) rfl, rfl⟩
set_option maxRecDepth 100000 in
theorem en_cw111 : Cond.code (mt_name 111) (mt_code 111) (mt_nl 111) (mt_ret 111) ∈ en_T0 := List.mem_filter.mpr ⟨List.mem_of_getElem? (i := 726) rfl, rfl⟩
set_option maxRecDepth 100000 in
theorem en_cw112 : Cond.code (mt_name 112) (mt_code 112) (mt_nl 112) (mt_ret 112) ∈ en_T0 := List.mem_filter.mpr ⟨List.mem_of_getElem? (i := 730) rfl, rfl⟩
set_option maxRecDepth 100000 in
theorem en_cw113 : Cond.code (mt_name 113) (mt_code 113) (mt_nl 113) (mt_ret 113) ∈ en_T0 := List.mem_filter.mpr ⟨List.mem_of_getElem? (i := 734) rfl, rfl⟩
set_option maxRecDepth 100000 in
theorem en_cw114 : Cond.code (mt_name 114) (mt_code 114) (mt_nl 114) (mt_ret 114) ∈ en_T0 := List.mem_filter.mpr ⟨List.mem_of_getElem? (i := 738) rfl, rfl⟩
set_option maxRecDepth 100000 in
theorem en_cw115 : Cond.code (mt_name 115) (mt_code 115) (mt_nl 115) (mt_ret 115) ∈ en_T0 := List.mem_filter.mpr ⟨List.mem_of_getElem? (i := 104) rfl, rfl⟩
set_option maxRecDepth 100000 in
theorem en_cw116 : Cond.code (mt_name 116) (mt_code 116) (mt_nl 116) (mt_ret 116) ∈ en_T0 := List.mem_filter.mpr ⟨List.mem_of_getElem? (i := 257) rfl, rfl⟩
theorem en_codes : ∀ y, y < mt_law → Cond.code (mt_name y) (mt_code y) (mt_nl y) (mt_ret y) ∈ en_T0 := by
  intro y hy
  match y, hy with
  | 0, _ => exact en_cw0
  | 1, _ => exact en_cw1
  | 2, _ => exact en_cw2
  | 3, _ => exact en_cw3
  | 4, _ => exact en_cw4
  | 5, _ => exact en_cw5
  | 6, _ => exact en_cw6
  | 7, _ => exact en_cw7
  | 8, _ => exact en_cw8
  | 9, _ => exact en_cw9
  | 10, _ => exact en_cw10
  | 11, _ => exact en_cw11
  | 12, _ => exact en_cw12
  | 13, _ => exact en_cw13
  | 14, _ => exact en_cw14
  | 15, _ => exact en_cw15
  | 16, _ => exact en_cw16
  | 17, _ => exact en_cw17
  | 18, _ => exact en_cw18
  | 19, _ => exact en_cw19
  | 20, _ => exact en_cw20
  | 21, _ => exact en_cw21
  | 22, _ => exact en_cw22
  | 23, _ => exact en_cw23
  | 24, _ => exact en_cw24
  | 25, _ => exact en_cw25
  | 26, _ => exact en_cw26
  | 27, _ => exact en_cw27
  | 28, _ => exact en_cw28
  | 29, _ => exact en_cw29
  | 30, _ => exact en_cw30
  | 31, _ => exact en_cw31
  | 32, _ => exact en_cw32
  | 33, _ => exact en_cw33
  | 34, _ => exact en_cw34
  | 35, _ => exact en_cw35
  | 36, _ => exact en_cw36
  | 37, _ => exact en_cw37
  | 38, _ => exact en_cw38
  | 39, _ => exact en_cw39
  | 40, _ => exact en_cw40
  | 41, _ => exact en_cw41
  | 42, _ => exact en_cw42
  | 43, _ => exact en_cw43
  | 44, _ => exact en_cw44
  | 45, _ => exact en_cw45
  | 46, _ => exact en_cw46
  | 47, _ => exact en_cw47
  | 48, _ => exact en_cw48
  | 49, _ => exact en_cw49
  | 50, _ => exact en_cw50
  | 51, _ => exact en_cw51
  | 52, _ => exact en_cw52
  | 53, _ => exact en_cw53
  | 54, _ => exact en_cw54
  | 55, _ => exact en_cw55
  | 56, _ => exact en_cw56
  | 57, _ => exact en_cw57
  | 58, _ => exact en_cw58
  | 59, _ => exact en_cw59
  | 60, _ => exact en_cw60
  | 61, _ => exact en_cw61
  | 62, _ => exact en_cw62
  | 63, _ => exact en_cw63
  | 64, _ => exact en_cw64
  | 65, _ => exact en_cw65
  | 66, _ => exact en_cw66
  | 67, _ => exact en_cw67
  | 68, _ => exact en_cw68
  | 69, _ => exact en_cw69
  | 70, _ => exact en_cw70
  | 71, _ => exact en_cw71
  | 72, _ => exact en_cw72
  | 73, _ => exact en_cw73
  | 74, _ => exact en_cw74
  | 75, _ => exact en_cw75
  | 76, _ => exact en_cw76
  | 77, _ => exact en_cw77
  | 78, _ => exact en_cw78
  | 79, _ => exact en_cw79
  | 80, _ => exact en_cw80
  | 81, _ => exact en_cw81
  | 82, _ => exact en_cw82
  | 83, _ => exact en_cw83
  | 84, _ => exact en_cw84
  | 85, _ => exact en_cw85
  | 86, _ => exact en_cw86
  | 87, _ => exact en_cw87
  | 88, _ => exact en_cw88
  | 89, _ => exact en_cw89
  | 90, _ => exact en_cw90
  | 91, _ => exact en_cw91
  | 92, _ => exact en_cw92
  | 93, _ => exact en_cw93
  | 94, _ => exact en_cw94
  | 95, _ => exact en_cw95
  | 96, _ => exact en_cw96
  | 97, _ => exact en_cw97
  | 98, _ => exact en_cw98
  | 99, _ => exact en_cw99
  | 100, _ => exact en_cw100
  | 101, _ => exact en_cw101
  | 102, _ => exact en_cw102
  | 103, _ => exact en_cw103
  | 104, _ => exact en_cw104
  | 105, _ => exact en_cw105
  | 106, _ => exact en_cw106
  | 107, _ => exact en_cw107
  | 108, _ => exact en_cw108
  | 109, _ => exact en_cw109
  | 110, _ => exact en_cw110
  | 111, _ => exact en_cw111
  | 112, _ => exact en_cw112
  | 113, _ => exact en_cw113
  | 114, _ => exact en_cw114
  | 115, _ => exact en_cw115
  | 116, _ => exact en_cw116
  | y + 117, hy => exact absurd hy (by unfold mt_law; omega)
theorem en_Yok {y k : Nat} (hy : y < mt_law) (hk : (parseMethodDescriptor (mt_name y).desc).map (fun d => d.parameters.length) = some k) : en_okY y k := by
  have h1 := List.all_eq_true.mp en_ckY_all y (List.mem_range.mpr hy)
  unfold en_ckY at h1
  rw [Bool.and_eq_true, Bool.and_eq_true] at h1
  obtain ⟨⟨h2, h3⟩, h4⟩ := h1
  exact ⟨en_codes y hy, en_in_ok h2, of_decide_eq_true h3, hk, of_decide_eq_true h4⟩
def en_pc (y k : Nat) : Bool := decide (y < mt_law) && decide ((parseMethodDescriptor (mt_name y).desc).map (fun d => d.parameters.length) = some k)
theorem en_pc_ok {y k : Nat} (h : en_pc y k = true) : en_okY y k := by
  unfold en_pc at h
  rw [Bool.and_eq_true] at h
  exact en_Yok (of_decide_eq_true h.1) (of_decide_eq_true h.2)
def en_ckM (e : (Nat × Nat × Nat × Nat × Nat × Nat) × List Nat) : Bool := match e with
  | ((o, n, kd, y', na, ci), ps) => match kd with
    | 0 => decide ((vwCl[ci]?).map (fun r => r.1) = some (mt_name y').cls) && en_in (ps.getD 0 0) (Cond.methodLink (mt_cn o) n (mt_name y')) && en_in (ps.getD 1 0) (Cond.instanceMethod (mt_name y')) && en_in (ps.getD 2 0) (Cond.selects (mt_name y').cls (mt_name y') (mt_name y')) && en_pc y' na
    | 1 => en_in (ps.getD 0 0) (Cond.methodLink (mt_cn o) n (mt_name y')) && en_in (ps.getD 1 0) (Cond.static (mt_name y')) && en_pc y' na
    | 2 => en_in (ps.getD 0 0) (Cond.methodLink (mt_cn o) n (mt_name y')) && en_in (ps.getD 1 0) (Cond.instanceMethod (mt_name y')) && decide ((mt_name y').name = "<init>") && decide (mt_ret y' = none) && en_pc y' na
    | 3 => en_nl.any (fun q => decide (q.1 = mt_cn o ∧ q.2.1 = n ∧ q.2.2.1 = mt_name y')) && en_in (ps.getD 0 0) (Cond.instanceMethod (mt_name y')) && decide ((mt_name y').name = "<init>") && decide (mt_ret y' = none) && en_pc y' na
    | 4 => en_in (ps.getD 0 0) (Cond.methodLink (mt_cn o) n Lib.Math.max.name) && en_in (ps.getD 1 0) (Cond.static Lib.Math.max.name) && en_in (ps.getD 2 0) (Cond.initialized "java/lang/Math") && en_in (ps.getD 3 0) (Cond.code Lib.Math.max.name Lib.Math.max.code 2 (some .int))
    | 5 => en_in (ps.getD 0 0) (Cond.methodLink (mt_cn o) n Lib.Math.min.name) && en_in (ps.getD 1 0) (Cond.static Lib.Math.min.name) && en_in (ps.getD 2 0) (Cond.initialized "java/lang/Math") && en_in (ps.getD 3 0) (Cond.code Lib.Math.min.name Lib.Math.min.code 2 (some .int))
    | 6 => en_in (ps.getD 0 0) (Cond.methodLink (mt_cn o) n arraycopyName) && en_in (ps.getD 1 0) (Cond.native arraycopyName) && en_in (ps.getD 2 0) (Cond.static arraycopyName) && en_in (ps.getD 3 0) (Cond.initialized "java/lang/System")
    | 7 => en_in (ps.getD 0 0) (Cond.methodLink (mt_cn o) n Lib.objectInit) && en_in (ps.getD 1 0) (Cond.instanceMethod Lib.objectInit) && en_in (ps.getD 2 0) (Cond.code Lib.objectInit ⟨#[0xb1]⟩ 1 none)
    | _ => false
set_option maxRecDepth 100000 in
theorem en_ckM_all : (tb_mths.zip tp_mths).all en_ckM = true := by decide +kernel
theorem en_tokM : ∀ o n q, tb_mth o n = some q → en_okM o n q := by
  intro o n q h
  obtain ⟨kd, y', na, ci⟩ := q
  obtain ⟨ps, hi⟩ := en_zip (m := tp_mths) (en_find h) (by decide +kernel)
  have h1 := List.all_eq_true.mp en_ckM_all _ hi
  unfold en_ckM at h1
  refine ⟨fun e => ?_, fun e => ?_, fun e => ?_, fun e => ?_, fun e => ?_, fun e => ?_, fun e => ?_, fun e => ?_⟩ <;> (have e : kd = _ := e; subst e; dsimp only at h1; simp only [Bool.and_eq_true] at h1)
  · obtain ⟨⟨⟨⟨h1, h2⟩, h3⟩, h4⟩, h5⟩ := h1
    have h1 := of_decide_eq_true h1
    cases hr : vwCl[ci]? with
    | none => rw [hr] at h1; cases h1
    | some r =>
      rw [hr] at h1
      exact ⟨⟨r, rfl, Option.some.inj h1⟩, en_in_ok h2, en_in_ok h3, en_in_ok h4, en_pc_ok h5⟩
  · obtain ⟨⟨h1, h2⟩, h3⟩ := h1
    exact ⟨en_in_ok h1, en_in_ok h2, en_pc_ok h3⟩
  · obtain ⟨⟨⟨⟨h1, h2⟩, h3⟩, h4⟩, h5⟩ := h1
    exact ⟨en_in_ok h1, en_in_ok h2, of_decide_eq_true h3, of_decide_eq_true h4, en_pc_ok h5⟩
  · obtain ⟨⟨⟨⟨h1, h2⟩, h3⟩, h4⟩, h5⟩ := h1
    obtain ⟨⟨q1, q2, q3, q4⟩, hq, hd⟩ := List.any_eq_true.mp h1
    obtain ⟨e1, e2, e3⟩ := of_decide_eq_true hd
    dsimp only at e1 e2 e3
    subst e1 e2 e3
    exact ⟨⟨q4, hq⟩, en_in_ok h2, of_decide_eq_true h3, of_decide_eq_true h4, en_pc_ok h5⟩
  · obtain ⟨⟨⟨h1, h2⟩, h3⟩, h4⟩ := h1
    exact ⟨en_in_ok h1, en_in_ok h2, en_in_ok h3, en_in_ok h4⟩
  · obtain ⟨⟨⟨h1, h2⟩, h3⟩, h4⟩ := h1
    exact ⟨en_in_ok h1, en_in_ok h2, en_in_ok h3, en_in_ok h4⟩
  · obtain ⟨⟨⟨h1, h2⟩, h3⟩, h4⟩ := h1
    exact ⟨en_in_ok h1, en_in_ok h2, en_in_ok h3, en_in_ok h4⟩
  · obtain ⟨⟨h1, h2⟩, h3⟩ := h1
    exact ⟨en_in_ok h1, en_in_ok h2, en_in_ok h3⟩
set_option maxRecDepth 100000 in
theorem en_ckL_all : (tb_ldcs.zip tp_ldcs).all (fun e => en_in e.2 (Cond.constant (mt_cn e.1.1) e.1.2.1 e.1.2.2)) = true := by decide +kernel
set_option maxRecDepth 100000 in
theorem en_arr0 : en_in (tp_arr.getD 0 0) (Cond.arrayClass .int) = true ∧ en_in (tp_arr.getD 1 0) (Cond.arrayClass .long) = true ∧ en_in (tp_arr.getD 2 0) (Cond.arrayClass .boolean) = true := by decide +kernel
theorem en_tok : en_Tok := by
  refine ⟨en_tokF, en_tokN, en_tokM, fun o n v h => ?_, fun ty t h => ?_⟩
  · obtain ⟨i, hi⟩ := en_zip (m := tp_ldcs) (en_find h) (by decide +kernel)
    exact en_in_ok (List.all_eq_true.mp en_ckL_all _ hi)
  cases ty <;> first | exact en_in_ok en_arr0.1 | exact en_in_ok en_arr0.2.1 | exact en_in_ok en_arr0.2.2 | cases h
def en_ckZ (y : Nat) : Bool := plainName (mt_name y).cls && decide (mt_cn (mt_cls y) = (mt_name y).cls) && (!mt_init y || decide ((mt_name y).name = "<init>")) && (match mt_rk y, mt_ret y with
  | 0, none => true
  | 1, some .int => true
  | 2, some .boolean => true
  | 3, some (.array _) => true
  | _, _ => false)
set_option maxRecDepth 100000 in
theorem en_ckZ_all : (List.range mt_law).all en_ckZ = true := by decide +kernel
theorem en_Zok {y : Nat} (h1 : en_ckZ y = true) : en_okZ y := by
  unfold en_ckZ at h1
  rw [Bool.and_eq_true, Bool.and_eq_true, Bool.and_eq_true] at h1
  obtain ⟨⟨⟨h1, h2⟩, h3⟩, h4⟩ := h1
  refine ⟨h1, of_decide_eq_true h2, fun h => ?_, fun h => ?_, fun h => ?_, fun h => ?_, fun h => ?_⟩
  · rw [h] at h3
    exact of_decide_eq_true (by simpa using h3)
  · rw [h] at h4
    split at h4 <;> first | assumption | contradiction | cases h4
  · rw [h] at h4
    split at h4 <;> first | assumption | contradiction | cases h4
  · rw [h] at h4
    split at h4 <;> first | assumption | contradiction | cases h4
  · rw [h] at h4
    split at h4 <;> first | contradiction | (rename_i t ht; exact ⟨_, ht, Or.inr ⟨_, rfl⟩⟩) | cases h4
theorem en_far {α : Type} {l : List α} {d : α} {y : Nat} (h : l.length ≤ y) : l.getD y d = d := by
  rw [List.getD_eq_getElem?_getD, List.getElem?_eq_none h]
  rfl
theorem en_tz : ∀ y, y ≠ mt_law → en_okZ y := by
  intro y hy
  by_cases h : y < mt_law
  · exact en_Zok (List.all_eq_true.mp en_ckZ_all y (List.mem_range.mpr h))
  · have hlen : mt_law + 1 ≤ y := by omega
    have e1 : mt_name y = mt_name 0 := en_far hlen
    have e2 : mt_cls y = mt_cls 0 := en_far hlen
    have e3 : mt_init y = mt_init 0 := en_far hlen
    have e4 : mt_rk y = mt_rk 0 := en_far hlen
    have e5 : mt_ret y = mt_ret 0 := en_far hlen
    have h0 := List.all_eq_true.mp en_ckZ_all 0 (List.mem_range.mpr (by decide))
    have hz : en_ckZ y = en_ckZ 0 := by unfold en_ckZ; rw [e1, e2, e3, e4, e5]
    exact en_Zok (hz.trans h0)
/-- the whole engine: a call of the abstract machine is a contract of the method -/
theorem en_met (l : Launch) (D : va_G) (tc : Nat → ClassId) (ρ : Nat → Nat) (b0 : Nat) (hρ : ∀ i, i < en_S → ρ i = b0 + i) {d y : Nat} {As : List Value} {c : en_H} {x u : Nat} {v : Option Value} {c' : en_H} {x' u' : Nat} (h : en_call d y As c x u v c' x' u') (hx : x' < en_S) : en_M l D tc ρ b0 d y As c x u v c' x' u' := en_sound en_tok en_tz l D tc ρ b0 hρ d y As c x u v c' x' u' h hx
end
