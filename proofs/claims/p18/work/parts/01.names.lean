section
def lw_okq (q : MethodName × Nat) : Prop := (q.1.cls ≠ "java/lang/invoke/MethodHandle" ∧ q.1.cls ≠ "java/lang/invoke/VarHandle") ∧ Cond.instantiable q.1.cls q.2 ∈ tables_1 ∧ Cond.privateMethod q.1 ∈ tables_1 ∧ Cond.instanceMethod q.1 ∈ tables_1
theorem lw_p0 : lw_okq (⟨"LineKeeper", "tapeNumber", "(I)V"⟩, 16) := ⟨⟨by decide +kernel, by decide +kernel⟩, List.mem_of_getElem? (i := 23) (by decide +kernel), List.mem_of_getElem? (i := 490) (by decide +kernel), List.mem_of_getElem? (i := 491) (by decide +kernel)⟩
theorem lw_p1 : lw_okq (⟨"LineKeeper$Tokens", "scanOne", "([BII)I"⟩, 7) := ⟨⟨by decide +kernel, by decide +kernel⟩, List.mem_of_getElem? (i := 39) (by decide +kernel), List.mem_of_getElem? (i := 516) (by decide +kernel), List.mem_of_getElem? (i := 517) (by decide +kernel)⟩
theorem lw_p2 : lw_okq (⟨"LineKeeper$Tokens", "wordKind", "()I"⟩, 7) := ⟨⟨by decide +kernel, by decide +kernel⟩, List.mem_of_getElem? (i := 39) (by decide +kernel), List.mem_of_getElem? (i := 520) (by decide +kernel), List.mem_of_getElem? (i := 521) (by decide +kernel)⟩
theorem lw_p3 : lw_okq (⟨"LineKeeper$Tokens", "keep", "(I)V"⟩, 7) := ⟨⟨by decide +kernel, by decide +kernel⟩, List.mem_of_getElem? (i := 39) (by decide +kernel), List.mem_of_getElem? (i := 531) (by decide +kernel), List.mem_of_getElem? (i := 532) (by decide +kernel)⟩
theorem lw_p4 : lw_okq (⟨"LineKeeper$Reader", "header", "()Z"⟩, 19) := ⟨⟨by decide +kernel, by decide +kernel⟩, List.mem_of_getElem? (i := 33) (by decide +kernel), List.mem_of_getElem? (i := 542) (by decide +kernel), List.mem_of_getElem? (i := 543) (by decide +kernel)⟩
theorem lw_p5 : lw_okq (⟨"LineKeeper$Reader", "refuse", "()Z"⟩, 19) := ⟨⟨by decide +kernel, by decide +kernel⟩, List.mem_of_getElem? (i := 33) (by decide +kernel), List.mem_of_getElem? (i := 546) (by decide +kernel), List.mem_of_getElem? (i := 547) (by decide +kernel)⟩
theorem lw_p6 : lw_okq (⟨"LineKeeper$Reader", "openRoutine", "(I)V"⟩, 19) := ⟨⟨by decide +kernel, by decide +kernel⟩, List.mem_of_getElem? (i := 33) (by decide +kernel), List.mem_of_getElem? (i := 550) (by decide +kernel), List.mem_of_getElem? (i := 551) (by decide +kernel)⟩
theorem lw_p7 : lw_okq (⟨"LineKeeper$Reader", "routineOf", "(I)I"⟩, 19) := ⟨⟨by decide +kernel, by decide +kernel⟩, List.mem_of_getElem? (i := 33) (by decide +kernel), List.mem_of_getElem? (i := 554) (by decide +kernel), List.mem_of_getElem? (i := 555) (by decide +kernel)⟩
theorem lw_p8 : lw_okq (⟨"LineKeeper$Reader", "note", "(II)V"⟩, 19) := ⟨⟨by decide +kernel, by decide +kernel⟩, List.mem_of_getElem? (i := 33) (by decide +kernel), List.mem_of_getElem? (i := 561) (by decide +kernel), List.mem_of_getElem? (i := 562) (by decide +kernel)⟩
theorem lw_p9 : lw_okq (⟨"LineKeeper$Reader", "taken", "(C)Z"⟩, 19) := ⟨⟨by decide +kernel, by decide +kernel⟩, List.mem_of_getElem? (i := 33) (by decide +kernel), List.mem_of_getElem? (i := 574) (by decide +kernel), List.mem_of_getElem? (i := 575) (by decide +kernel)⟩
theorem lw_p10 : lw_okq (⟨"LineKeeper$Reader", "parameters", "()Z"⟩, 19) := ⟨⟨by decide +kernel, by decide +kernel⟩, List.mem_of_getElem? (i := 33) (by decide +kernel), List.mem_of_getElem? (i := 578) (by decide +kernel), List.mem_of_getElem? (i := 579) (by decide +kernel)⟩
theorem lw_p11 : lw_okq (⟨"LineKeeper$Reader", "parameter", "(I)V"⟩, 19) := ⟨⟨by decide +kernel, by decide +kernel⟩, List.mem_of_getElem? (i := 33) (by decide +kernel), List.mem_of_getElem? (i := 582) (by decide +kernel), List.mem_of_getElem? (i := 583) (by decide +kernel)⟩
theorem lw_p12 : lw_okq (⟨"LineKeeper$Reader", "nameIndex", "(I)I"⟩, 19) := ⟨⟨by decide +kernel, by decide +kernel⟩, List.mem_of_getElem? (i := 33) (by decide +kernel), List.mem_of_getElem? (i := 586) (by decide +kernel), List.mem_of_getElem? (i := 587) (by decide +kernel)⟩
theorem lw_p13 : lw_okq (⟨"LineKeeper$Reader", "register", "()I"⟩, 19) := ⟨⟨by decide +kernel, by decide +kernel⟩, List.mem_of_getElem? (i := 33) (by decide +kernel), List.mem_of_getElem? (i := 590) (by decide +kernel), List.mem_of_getElem? (i := 591) (by decide +kernel)⟩
theorem lw_p14 : lw_okq (⟨"LineKeeper$Reader", "block", "(I)Z"⟩, 19) := ⟨⟨by decide +kernel, by decide +kernel⟩, List.mem_of_getElem? (i := 33) (by decide +kernel), List.mem_of_getElem? (i := 594) (by decide +kernel), List.mem_of_getElem? (i := 595) (by decide +kernel)⟩
theorem lw_p15 : lw_okq (⟨"LineKeeper$Reader", "statement", "(I)Z"⟩, 19) := ⟨⟨by decide +kernel, by decide +kernel⟩, List.mem_of_getElem? (i := 33) (by decide +kernel), List.mem_of_getElem? (i := 598) (by decide +kernel), List.mem_of_getElem? (i := 599) (by decide +kernel)⟩
def lw_privs_1 : List (MethodName × Nat) := [(⟨"LineKeeper", "tapeNumber", "(I)V"⟩, 16), (⟨"LineKeeper$Tokens", "scanOne", "([BII)I"⟩, 7), (⟨"LineKeeper$Tokens", "wordKind", "()I"⟩, 7), (⟨"LineKeeper$Tokens", "keep", "(I)V"⟩, 7), (⟨"LineKeeper$Reader", "header", "()Z"⟩, 19), (⟨"LineKeeper$Reader", "refuse", "()Z"⟩, 19), (⟨"LineKeeper$Reader", "openRoutine", "(I)V"⟩, 19), (⟨"LineKeeper$Reader", "routineOf", "(I)I"⟩, 19), (⟨"LineKeeper$Reader", "note", "(II)V"⟩, 19), (⟨"LineKeeper$Reader", "taken", "(C)Z"⟩, 19), (⟨"LineKeeper$Reader", "parameters", "()Z"⟩, 19), (⟨"LineKeeper$Reader", "parameter", "(I)V"⟩, 19), (⟨"LineKeeper$Reader", "nameIndex", "(I)I"⟩, 19), (⟨"LineKeeper$Reader", "register", "()I"⟩, 19), (⟨"LineKeeper$Reader", "block", "(I)Z"⟩, 19), (⟨"LineKeeper$Reader", "statement", "(I)Z"⟩, 19)]
theorem lw_r1 : ∀ q ∈ lw_privs_1, lw_okq q := List.forall_mem_cons.mpr ⟨lw_p0, List.forall_mem_cons.mpr ⟨lw_p1, List.forall_mem_cons.mpr ⟨lw_p2, List.forall_mem_cons.mpr ⟨lw_p3, List.forall_mem_cons.mpr ⟨lw_p4, List.forall_mem_cons.mpr ⟨lw_p5, List.forall_mem_cons.mpr ⟨lw_p6, List.forall_mem_cons.mpr ⟨lw_p7, List.forall_mem_cons.mpr ⟨lw_p8, List.forall_mem_cons.mpr ⟨lw_p9, List.forall_mem_cons.mpr ⟨lw_p10, List.forall_mem_cons.mpr ⟨lw_p11, List.forall_mem_cons.mpr ⟨lw_p12, List.forall_mem_cons.mpr ⟨lw_p13, List.forall_mem_cons.mpr ⟨lw_p14, List.forall_mem_cons.mpr ⟨lw_p15, fun _ h => absurd h List.not_mem_nil⟩⟩⟩⟩⟩⟩⟩⟩⟩⟩⟩⟩⟩⟩⟩⟩
theorem lw_p16 : lw_okq (⟨"LineKeeper$Reader", "assignment", "()Z"⟩, 19) := ⟨⟨by decide +kernel, by decide +kernel⟩, List.mem_of_getElem? (i := 33) (by decide +kernel), List.mem_of_getElem? (i := 602) (by decide +kernel), List.mem_of_getElem? (i := 603) (by decide +kernel)⟩
theorem lw_p17 : lw_okq (⟨"LineKeeper$Reader", "call", "(I)Z"⟩, 19) := ⟨⟨by decide +kernel, by decide +kernel⟩, List.mem_of_getElem? (i := 33) (by decide +kernel), List.mem_of_getElem? (i := 636) (by decide +kernel), List.mem_of_getElem? (i := 637) (by decide +kernel)⟩
theorem lw_p18 : lw_okq (⟨"LineKeeper$Reader", "expression", "(I)Z"⟩, 19) := ⟨⟨by decide +kernel, by decide +kernel⟩, List.mem_of_getElem? (i := 33) (by decide +kernel), List.mem_of_getElem? (i := 643) (by decide +kernel), List.mem_of_getElem? (i := 644) (by decide +kernel)⟩
theorem lw_p19 : lw_okq (⟨"LineKeeper$Reader", "sum", "(I)Z"⟩, 19) := ⟨⟨by decide +kernel, by decide +kernel⟩, List.mem_of_getElem? (i := 33) (by decide +kernel), List.mem_of_getElem? (i := 647) (by decide +kernel), List.mem_of_getElem? (i := 648) (by decide +kernel)⟩
theorem lw_p20 : lw_okq (⟨"LineKeeper$Reader", "term", "(I)Z"⟩, 19) := ⟨⟨by decide +kernel, by decide +kernel⟩, List.mem_of_getElem? (i := 33) (by decide +kernel), List.mem_of_getElem? (i := 651) (by decide +kernel), List.mem_of_getElem? (i := 652) (by decide +kernel)⟩
theorem lw_p21 : lw_okq (⟨"LineKeeper$Reader", "factor", "(I)Z"⟩, 19) := ⟨⟨by decide +kernel, by decide +kernel⟩, List.mem_of_getElem? (i := 33) (by decide +kernel), List.mem_of_getElem? (i := 655) (by decide +kernel), List.mem_of_getElem? (i := 656) (by decide +kernel)⟩
theorem lw_p22 : lw_okq (⟨"LineKeeper$Reader", "atom", "(I)Z"⟩, 19) := ⟨⟨by decide +kernel, by decide +kernel⟩, List.mem_of_getElem? (i := 33) (by decide +kernel), List.mem_of_getElem? (i := 659) (by decide +kernel), List.mem_of_getElem? (i := 660) (by decide +kernel)⟩
theorem lw_p23 : lw_okq (⟨"LineKeeper$Reader", "join", "(III)V"⟩, 19) := ⟨⟨by decide +kernel, by decide +kernel⟩, List.mem_of_getElem? (i := 33) (by decide +kernel), List.mem_of_getElem? (i := 663) (by decide +kernel), List.mem_of_getElem? (i := 664) (by decide +kernel)⟩
theorem lw_p24 : lw_okq (⟨"LineKeeper$Reader", "listCall", "(III)V"⟩, 19) := ⟨⟨by decide +kernel, by decide +kernel⟩, List.mem_of_getElem? (i := 33) (by decide +kernel), List.mem_of_getElem? (i := 671) (by decide +kernel), List.mem_of_getElem? (i := 672) (by decide +kernel)⟩
theorem lw_p25 : lw_okq (⟨"LineKeeper$Reader", "setting", "(I)Z"⟩, 19) := ⟨⟨by decide +kernel, by decide +kernel⟩, List.mem_of_getElem? (i := 33) (by decide +kernel), List.mem_of_getElem? (i := 675) (by decide +kernel), List.mem_of_getElem? (i := 676) (by decide +kernel)⟩
theorem lw_p26 : lw_okq (⟨"LineKeeper$Reader", "single", "(I)Z"⟩, 19) := ⟨⟨by decide +kernel, by decide +kernel⟩, List.mem_of_getElem? (i := 33) (by decide +kernel), List.mem_of_getElem? (i := 687) (by decide +kernel), List.mem_of_getElem? (i := 688) (by decide +kernel)⟩
theorem lw_p27 : lw_okq (⟨"LineKeeper$Reader", "choice", "(I)Z"⟩, 19) := ⟨⟨by decide +kernel, by decide +kernel⟩, List.mem_of_getElem? (i := 33) (by decide +kernel), List.mem_of_getElem? (i := 691) (by decide +kernel), List.mem_of_getElem? (i := 692) (by decide +kernel)⟩
theorem lw_p28 : lw_okq (⟨"LineKeeper$Reader", "zeroToNew", "()I"⟩, 19) := ⟨⟨by decide +kernel, by decide +kernel⟩, List.mem_of_getElem? (i := 33) (by decide +kernel), List.mem_of_getElem? (i := 695) (by decide +kernel), List.mem_of_getElem? (i := 696) (by decide +kernel)⟩
theorem lw_p29 : lw_okq (⟨"LineKeeper$Reader", "newLabel", "()I"⟩, 19) := ⟨⟨by decide +kernel, by decide +kernel⟩, List.mem_of_getElem? (i := 33) (by decide +kernel), List.mem_of_getElem? (i := 699) (by decide +kernel), List.mem_of_getElem? (i := 700) (by decide +kernel)⟩
theorem lw_p30 : lw_okq (⟨"LineKeeper$Reader", "ring", "(I)Z"⟩, 19) := ⟨⟨by decide +kernel, by decide +kernel⟩, List.mem_of_getElem? (i := 33) (by decide +kernel), List.mem_of_getElem? (i := 703) (by decide +kernel), List.mem_of_getElem? (i := 704) (by decide +kernel)⟩
theorem lw_p31 : lw_okq (⟨"LineKeeper$Reader", "closeRoutine", "(I)V"⟩, 19) := ⟨⟨by decide +kernel, by decide +kernel⟩, List.mem_of_getElem? (i := 33) (by decide +kernel), List.mem_of_getElem? (i := 707) (by decide +kernel), List.mem_of_getElem? (i := 708) (by decide +kernel)⟩
def lw_privs_2 : List (MethodName × Nat) := [(⟨"LineKeeper$Reader", "assignment", "()Z"⟩, 19), (⟨"LineKeeper$Reader", "call", "(I)Z"⟩, 19), (⟨"LineKeeper$Reader", "expression", "(I)Z"⟩, 19), (⟨"LineKeeper$Reader", "sum", "(I)Z"⟩, 19), (⟨"LineKeeper$Reader", "term", "(I)Z"⟩, 19), (⟨"LineKeeper$Reader", "factor", "(I)Z"⟩, 19), (⟨"LineKeeper$Reader", "atom", "(I)Z"⟩, 19), (⟨"LineKeeper$Reader", "join", "(III)V"⟩, 19), (⟨"LineKeeper$Reader", "listCall", "(III)V"⟩, 19), (⟨"LineKeeper$Reader", "setting", "(I)Z"⟩, 19), (⟨"LineKeeper$Reader", "single", "(I)Z"⟩, 19), (⟨"LineKeeper$Reader", "choice", "(I)Z"⟩, 19), (⟨"LineKeeper$Reader", "zeroToNew", "()I"⟩, 19), (⟨"LineKeeper$Reader", "newLabel", "()I"⟩, 19), (⟨"LineKeeper$Reader", "ring", "(I)Z"⟩, 19), (⟨"LineKeeper$Reader", "closeRoutine", "(I)V"⟩, 19)]
theorem lw_r2 : ∀ q ∈ lw_privs_2, lw_okq q := List.forall_mem_cons.mpr ⟨lw_p16, List.forall_mem_cons.mpr ⟨lw_p17, List.forall_mem_cons.mpr ⟨lw_p18, List.forall_mem_cons.mpr ⟨lw_p19, List.forall_mem_cons.mpr ⟨lw_p20, List.forall_mem_cons.mpr ⟨lw_p21, List.forall_mem_cons.mpr ⟨lw_p22, List.forall_mem_cons.mpr ⟨lw_p23, List.forall_mem_cons.mpr ⟨lw_p24, List.forall_mem_cons.mpr ⟨lw_p25, List.forall_mem_cons.mpr ⟨lw_p26, List.forall_mem_cons.mpr ⟨lw_p27, List.forall_mem_cons.mpr ⟨lw_p28, List.forall_mem_cons.mpr ⟨lw_p29, List.forall_mem_cons.mpr ⟨lw_p30, List.forall_mem_cons.mpr ⟨lw_p31, fun _ h => absurd h List.not_mem_nil⟩⟩⟩⟩⟩⟩⟩⟩⟩⟩⟩⟩⟩⟩⟩⟩
theorem lw_p32 : lw_okq (⟨"LineKeeper$Reader", "numberNew", "(I)V"⟩, 19) := ⟨⟨by decide +kernel, by decide +kernel⟩, List.mem_of_getElem? (i := 33) (by decide +kernel), List.mem_of_getElem? (i := 711) (by decide +kernel), List.mem_of_getElem? (i := 712) (by decide +kernel)⟩
theorem lw_p33 : lw_okq (⟨"LineKeeper$Reader", "settleCalls", "()Z"⟩, 19) := ⟨⟨by decide +kernel, by decide +kernel⟩, List.mem_of_getElem? (i := 33) (by decide +kernel), List.mem_of_getElem? (i := 732) (by decide +kernel), List.mem_of_getElem? (i := 733) (by decide +kernel)⟩
theorem lw_p34 : lw_okq (⟨"LineKeeper", "takeMade", "(I)V"⟩, 16) := ⟨⟨by decide +kernel, by decide +kernel⟩, List.mem_of_getElem? (i := 23) (by decide +kernel), List.mem_of_getElem? (i := 737) (by decide +kernel), List.mem_of_getElem? (i := 738) (by decide +kernel)⟩
theorem lw_p35 : lw_okq (⟨"LineKeeper$Code", "rowOfLabel", "(I)I"⟩, 12) := ⟨⟨by decide +kernel, by decide +kernel⟩, List.mem_of_getElem? (i := 72) (by decide +kernel), List.mem_of_getElem? (i := 749) (by decide +kernel), List.mem_of_getElem? (i := 750) (by decide +kernel)⟩
theorem lw_p36 : lw_okq (⟨"LineKeeper$Code", "holdRows", "(I)Z"⟩, 12) := ⟨⟨by decide +kernel, by decide +kernel⟩, List.mem_of_getElem? (i := 72) (by decide +kernel), List.mem_of_getElem? (i := 757) (by decide +kernel), List.mem_of_getElem? (i := 758) (by decide +kernel)⟩
theorem lw_p37 : lw_okq (⟨"LineKeeper", "codeOf", "(I)LLineKeeper$Code;"⟩, 16) := ⟨⟨by decide +kernel, by decide +kernel⟩, List.mem_of_getElem? (i := 23) (by decide +kernel), List.mem_of_getElem? (i := 780) (by decide +kernel), List.mem_of_getElem? (i := 781) (by decide +kernel)⟩
theorem lw_p38 : lw_okq (⟨"LineKeeper$Code", "greatestIn", "(I)I"⟩, 12) := ⟨⟨by decide +kernel, by decide +kernel⟩, List.mem_of_getElem? (i := 72) (by decide +kernel), List.mem_of_getElem? (i := 800) (by decide +kernel), List.mem_of_getElem? (i := 801) (by decide +kernel)⟩
theorem lw_p39 : lw_okq (⟨"LineKeeper$Told", "nameBind", "(LLineKeeper$Code;I)V"⟩, 7) := ⟨⟨by decide +kernel, by decide +kernel⟩, List.mem_of_getElem? (i := 240) (by decide +kernel), List.mem_of_getElem? (i := 836) (by decide +kernel), List.mem_of_getElem? (i := 837) (by decide +kernel)⟩
theorem lw_p40 : lw_okq (⟨"LineKeeper$Told", "begin", "(LLineKeeper$Code;)V"⟩, 7) := ⟨⟨by decide +kernel, by decide +kernel⟩, List.mem_of_getElem? (i := 240) (by decide +kernel), List.mem_of_getElem? (i := 850) (by decide +kernel), List.mem_of_getElem? (i := 851) (by decide +kernel)⟩
theorem lw_p41 : lw_okq (⟨"LineKeeper$Told", "goThrough", "(LLineKeeper$Code;I)V"⟩, 7) := ⟨⟨by decide +kernel, by decide +kernel⟩, List.mem_of_getElem? (i := 240) (by decide +kernel), List.mem_of_getElem? (i := 855) (by decide +kernel), List.mem_of_getElem? (i := 856) (by decide +kernel)⟩
theorem lw_p42 : lw_okq (⟨"LineKeeper$Told", "leans", "(LLineKeeper$Code;II)Z"⟩, 7) := ⟨⟨by decide +kernel, by decide +kernel⟩, List.mem_of_getElem? (i := 240) (by decide +kernel), List.mem_of_getElem? (i := 861) (by decide +kernel), List.mem_of_getElem? (i := 862) (by decide +kernel)⟩
theorem lw_p43 : lw_okq (⟨"LineKeeper$Told", "comeTo", "(LLineKeeper$Code;I)V"⟩, 7) := ⟨⟨by decide +kernel, by decide +kernel⟩, List.mem_of_getElem? (i := 240) (by decide +kernel), List.mem_of_getElem? (i := 873) (by decide +kernel), List.mem_of_getElem? (i := 874) (by decide +kernel)⟩
theorem lw_p44 : lw_okq (⟨"LineKeeper", "tear", "(IILLineKeeper$Code;)I"⟩, 16) := ⟨⟨by decide +kernel, by decide +kernel⟩, List.mem_of_getElem? (i := 23) (by decide +kernel), List.mem_of_getElem? (i := 901) (by decide +kernel), List.mem_of_getElem? (i := 902) (by decide +kernel)⟩
theorem lw_p45 : lw_okq (⟨"LineKeeper$Rewriter", "foldBind", "(LLineKeeper$Code;I)V"⟩, 3) := ⟨⟨by decide +kernel, by decide +kernel⟩, List.mem_of_getElem? (i := 270) (by decide +kernel), List.mem_of_getElem? (i := 911) (by decide +kernel), List.mem_of_getElem? (i := 912) (by decide +kernel)⟩
theorem lw_p46 : lw_okq (⟨"LineKeeper$Rewriter", "foldOperands", "(LLineKeeper$Code;I)Z"⟩, 3) := ⟨⟨by decide +kernel, by decide +kernel⟩, List.mem_of_getElem? (i := 270) (by decide +kernel), List.mem_of_getElem? (i := 918) (by decide +kernel), List.mem_of_getElem? (i := 919) (by decide +kernel)⟩
theorem lw_p47 : lw_okq (⟨"LineKeeper$Rewriter", "foldAct", "(LLineKeeper$Code;I)Z"⟩, 3) := ⟨⟨by decide +kernel, by decide +kernel⟩, List.mem_of_getElem? (i := 270) (by decide +kernel), List.mem_of_getElem? (i := 923) (by decide +kernel), List.mem_of_getElem? (i := 924) (by decide +kernel)⟩
def lw_privs_3 : List (MethodName × Nat) := [(⟨"LineKeeper$Reader", "numberNew", "(I)V"⟩, 19), (⟨"LineKeeper$Reader", "settleCalls", "()Z"⟩, 19), (⟨"LineKeeper", "takeMade", "(I)V"⟩, 16), (⟨"LineKeeper$Code", "rowOfLabel", "(I)I"⟩, 12), (⟨"LineKeeper$Code", "holdRows", "(I)Z"⟩, 12), (⟨"LineKeeper", "codeOf", "(I)LLineKeeper$Code;"⟩, 16), (⟨"LineKeeper$Code", "greatestIn", "(I)I"⟩, 12), (⟨"LineKeeper$Told", "nameBind", "(LLineKeeper$Code;I)V"⟩, 7), (⟨"LineKeeper$Told", "begin", "(LLineKeeper$Code;)V"⟩, 7), (⟨"LineKeeper$Told", "goThrough", "(LLineKeeper$Code;I)V"⟩, 7), (⟨"LineKeeper$Told", "leans", "(LLineKeeper$Code;II)Z"⟩, 7), (⟨"LineKeeper$Told", "comeTo", "(LLineKeeper$Code;I)V"⟩, 7), (⟨"LineKeeper", "tear", "(IILLineKeeper$Code;)I"⟩, 16), (⟨"LineKeeper$Rewriter", "foldBind", "(LLineKeeper$Code;I)V"⟩, 3), (⟨"LineKeeper$Rewriter", "foldOperands", "(LLineKeeper$Code;I)Z"⟩, 3), (⟨"LineKeeper$Rewriter", "foldAct", "(LLineKeeper$Code;I)Z"⟩, 3)]
theorem lw_r3 : ∀ q ∈ lw_privs_3, lw_okq q := List.forall_mem_cons.mpr ⟨lw_p32, List.forall_mem_cons.mpr ⟨lw_p33, List.forall_mem_cons.mpr ⟨lw_p34, List.forall_mem_cons.mpr ⟨lw_p35, List.forall_mem_cons.mpr ⟨lw_p36, List.forall_mem_cons.mpr ⟨lw_p37, List.forall_mem_cons.mpr ⟨lw_p38, List.forall_mem_cons.mpr ⟨lw_p39, List.forall_mem_cons.mpr ⟨lw_p40, List.forall_mem_cons.mpr ⟨lw_p41, List.forall_mem_cons.mpr ⟨lw_p42, List.forall_mem_cons.mpr ⟨lw_p43, List.forall_mem_cons.mpr ⟨lw_p44, List.forall_mem_cons.mpr ⟨lw_p45, List.forall_mem_cons.mpr ⟨lw_p46, List.forall_mem_cons.mpr ⟨lw_p47, fun _ h => absurd h List.not_mem_nil⟩⟩⟩⟩⟩⟩⟩⟩⟩⟩⟩⟩⟩⟩⟩⟩
theorem lw_p48 : lw_okq (⟨"LineKeeper$Rewriter", "learn", "(LLineKeeper$Code;I)V"⟩, 3) := ⟨⟨by decide +kernel, by decide +kernel⟩, List.mem_of_getElem? (i := 270) (by decide +kernel), List.mem_of_getElem? (i := 937) (by decide +kernel), List.mem_of_getElem? (i := 938) (by decide +kernel)⟩
theorem lw_p49 : lw_okq (⟨"LineKeeper$Rewriter", "goesOut", "(LLineKeeper$Code;I)Z"⟩, 3) := ⟨⟨by decide +kernel, by decide +kernel⟩, List.mem_of_getElem? (i := 270) (by decide +kernel), List.mem_of_getElem? (i := 943) (by decide +kernel), List.mem_of_getElem? (i := 944) (by decide +kernel)⟩
theorem lw_p50 : lw_okq (⟨"LineKeeper$Dropper", "dropUnreached", "(LLineKeeper$Code;)I"⟩, 1) := ⟨⟨by decide +kernel, by decide +kernel⟩, List.mem_of_getElem? (i := 286) (by decide +kernel), List.mem_of_getElem? (i := 955) (by decide +kernel), List.mem_of_getElem? (i := 956) (by decide +kernel)⟩
theorem lw_p51 : lw_okq (⟨"LineKeeper$Flow", "see", "(LLineKeeper$Code;I)V"⟩, 5) := ⟨⟨by decide +kernel, by decide +kernel⟩, List.mem_of_getElem? (i := 215) (by decide +kernel), List.mem_of_getElem? (i := 964) (by decide +kernel), List.mem_of_getElem? (i := 965) (by decide +kernel)⟩
theorem lw_p52 : lw_okq (⟨"LineKeeper$Flow", "gatherBehind", "(LLineKeeper$Code;I)V"⟩, 5) := ⟨⟨by decide +kernel, by decide +kernel⟩, List.mem_of_getElem? (i := 215) (by decide +kernel), List.mem_of_getElem? (i := 994) (by decide +kernel), List.mem_of_getElem? (i := 995) (by decide +kernel)⟩
theorem lw_p53 : lw_okq (⟨"LineKeeper$Flow", "settleAhead", "(LLineKeeper$Code;I)Z"⟩, 5) := ⟨⟨by decide +kernel, by decide +kernel⟩, List.mem_of_getElem? (i := 215) (by decide +kernel), List.mem_of_getElem? (i := 1004) (by decide +kernel), List.mem_of_getElem? (i := 1005) (by decide +kernel)⟩
theorem lw_p54 : lw_okq (⟨"LineKeeper$Dropper", "lastUnread", "(LLineKeeper$Code;)I"⟩, 1) := ⟨⟨by decide +kernel, by decide +kernel⟩, List.mem_of_getElem? (i := 286) (by decide +kernel), List.mem_of_getElem? (i := 1020) (by decide +kernel), List.mem_of_getElem? (i := 1021) (by decide +kernel)⟩
theorem lw_p55 : lw_okq (⟨"LineKeeper$Dropper", "loosenBinds", "(LLineKeeper$Code;I)V"⟩, 1) := ⟨⟨by decide +kernel, by decide +kernel⟩, List.mem_of_getElem? (i := 286) (by decide +kernel), List.mem_of_getElem? (i := 1032) (by decide +kernel), List.mem_of_getElem? (i := 1033) (by decide +kernel)⟩
theorem lw_p56 : lw_okq (⟨"LineKeeper$Dropper", "takeOver", "(LLineKeeper$Code;II)V"⟩, 1) := ⟨⟨by decide +kernel, by decide +kernel⟩, List.mem_of_getElem? (i := 286) (by decide +kernel), List.mem_of_getElem? (i := 1037) (by decide +kernel), List.mem_of_getElem? (i := 1038) (by decide +kernel)⟩
theorem lw_p57 : lw_okq (⟨"LineKeeper$Rewriter", "emptyLoop", "(LLineKeeper$Code;I)I"⟩, 3) := ⟨⟨by decide +kernel, by decide +kernel⟩, List.mem_of_getElem? (i := 270) (by decide +kernel), List.mem_of_getElem? (i := 1047) (by decide +kernel), List.mem_of_getElem? (i := 1048) (by decide +kernel)⟩
theorem lw_p58 : lw_okq (⟨"LineKeeper$Rewriter", "lastJumpTo", "(LLineKeeper$Code;I)I"⟩, 3) := ⟨⟨by decide +kernel, by decide +kernel⟩, List.mem_of_getElem? (i := 270) (by decide +kernel), List.mem_of_getElem? (i := 1051) (by decide +kernel), List.mem_of_getElem? (i := 1052) (by decide +kernel)⟩
theorem lw_p59 : lw_okq (⟨"LineKeeper$Rewriter", "firstMovable", "(LLineKeeper$Code;II)I"⟩, 3) := ⟨⟨by decide +kernel, by decide +kernel⟩, List.mem_of_getElem? (i := 270) (by decide +kernel), List.mem_of_getElem? (i := 1055) (by decide +kernel), List.mem_of_getElem? (i := 1056) (by decide +kernel)⟩
theorem lw_p60 : lw_okq (⟨"LineKeeper$Rewriter", "collectWritten", "(LLineKeeper$Code;II)V"⟩, 3) := ⟨⟨by decide +kernel, by decide +kernel⟩, List.mem_of_getElem? (i := 270) (by decide +kernel), List.mem_of_getElem? (i := 1059) (by decide +kernel), List.mem_of_getElem? (i := 1060) (by decide +kernel)⟩
theorem lw_p61 : lw_okq (⟨"LineKeeper$Rewriter", "standsStill", "(LLineKeeper$Code;I)Z"⟩, 3) := ⟨⟨by decide +kernel, by decide +kernel⟩, List.mem_of_getElem? (i := 270) (by decide +kernel), List.mem_of_getElem? (i := 1066) (by decide +kernel), List.mem_of_getElem? (i := 1067) (by decide +kernel)⟩
theorem lw_p62 : lw_okq (⟨"LineKeeper$Rewriter", "isOnlyWriter", "(LLineKeeper$Code;I)Z"⟩, 3) := ⟨⟨by decide +kernel, by decide +kernel⟩, List.mem_of_getElem? (i := 270) (by decide +kernel), List.mem_of_getElem? (i := 1075) (by decide +kernel), List.mem_of_getElem? (i := 1076) (by decide +kernel)⟩
theorem lw_p63 : lw_okq (⟨"LineKeeper$Rewriter", "latestTwin", "(LLineKeeper$Code;I)I"⟩, 3) := ⟨⟨by decide +kernel, by decide +kernel⟩, List.mem_of_getElem? (i := 270) (by decide +kernel), List.mem_of_getElem? (i := 1087) (by decide +kernel), List.mem_of_getElem? (i := 1088) (by decide +kernel)⟩
def lw_privs_4 : List (MethodName × Nat) := [(⟨"LineKeeper$Rewriter", "learn", "(LLineKeeper$Code;I)V"⟩, 3), (⟨"LineKeeper$Rewriter", "goesOut", "(LLineKeeper$Code;I)Z"⟩, 3), (⟨"LineKeeper$Dropper", "dropUnreached", "(LLineKeeper$Code;)I"⟩, 1), (⟨"LineKeeper$Flow", "see", "(LLineKeeper$Code;I)V"⟩, 5), (⟨"LineKeeper$Flow", "gatherBehind", "(LLineKeeper$Code;I)V"⟩, 5), (⟨"LineKeeper$Flow", "settleAhead", "(LLineKeeper$Code;I)Z"⟩, 5), (⟨"LineKeeper$Dropper", "lastUnread", "(LLineKeeper$Code;)I"⟩, 1), (⟨"LineKeeper$Dropper", "loosenBinds", "(LLineKeeper$Code;I)V"⟩, 1), (⟨"LineKeeper$Dropper", "takeOver", "(LLineKeeper$Code;II)V"⟩, 1), (⟨"LineKeeper$Rewriter", "emptyLoop", "(LLineKeeper$Code;I)I"⟩, 3), (⟨"LineKeeper$Rewriter", "lastJumpTo", "(LLineKeeper$Code;I)I"⟩, 3), (⟨"LineKeeper$Rewriter", "firstMovable", "(LLineKeeper$Code;II)I"⟩, 3), (⟨"LineKeeper$Rewriter", "collectWritten", "(LLineKeeper$Code;II)V"⟩, 3), (⟨"LineKeeper$Rewriter", "standsStill", "(LLineKeeper$Code;I)Z"⟩, 3), (⟨"LineKeeper$Rewriter", "isOnlyWriter", "(LLineKeeper$Code;I)Z"⟩, 3), (⟨"LineKeeper$Rewriter", "latestTwin", "(LLineKeeper$Code;I)I"⟩, 3)]
theorem lw_r4 : ∀ q ∈ lw_privs_4, lw_okq q := List.forall_mem_cons.mpr ⟨lw_p48, List.forall_mem_cons.mpr ⟨lw_p49, List.forall_mem_cons.mpr ⟨lw_p50, List.forall_mem_cons.mpr ⟨lw_p51, List.forall_mem_cons.mpr ⟨lw_p52, List.forall_mem_cons.mpr ⟨lw_p53, List.forall_mem_cons.mpr ⟨lw_p54, List.forall_mem_cons.mpr ⟨lw_p55, List.forall_mem_cons.mpr ⟨lw_p56, List.forall_mem_cons.mpr ⟨lw_p57, List.forall_mem_cons.mpr ⟨lw_p58, List.forall_mem_cons.mpr ⟨lw_p59, List.forall_mem_cons.mpr ⟨lw_p60, List.forall_mem_cons.mpr ⟨lw_p61, List.forall_mem_cons.mpr ⟨lw_p62, List.forall_mem_cons.mpr ⟨lw_p63, fun _ h => absurd h List.not_mem_nil⟩⟩⟩⟩⟩⟩⟩⟩⟩⟩⟩⟩⟩⟩⟩⟩
theorem lw_p64 : lw_okq (⟨"LineKeeper$Melter", "isSmall", "()Z"⟩, 10) := ⟨⟨by decide +kernel, by decide +kernel⟩, List.mem_of_getElem? (i := 296) (by decide +kernel), List.mem_of_getElem? (i := 1097) (by decide +kernel), List.mem_of_getElem? (i := 1098) (by decide +kernel)⟩
theorem lw_p65 : lw_okq (⟨"LineKeeper$Melter", "meltAt", "(I)Z"⟩, 10) := ⟨⟨by decide +kernel, by decide +kernel⟩, List.mem_of_getElem? (i := 296) (by decide +kernel), List.mem_of_getElem? (i := 1102) (by decide +kernel), List.mem_of_getElem? (i := 1103) (by decide +kernel)⟩
theorem lw_p66 : lw_okq (⟨"LineKeeper$Melter", "rowsNeeded", "()I"⟩, 10) := ⟨⟨by decide +kernel, by decide +kernel⟩, List.mem_of_getElem? (i := 296) (by decide +kernel), List.mem_of_getElem? (i := 1112) (by decide +kernel), List.mem_of_getElem? (i := 1113) (by decide +kernel)⟩
theorem lw_p67 : lw_okq (⟨"LineKeeper$Melter", "needsNought", "(I)Z"⟩, 10) := ⟨⟨by decide +kernel, by decide +kernel⟩, List.mem_of_getElem? (i := 296) (by decide +kernel), List.mem_of_getElem? (i := 1116) (by decide +kernel), List.mem_of_getElem? (i := 1117) (by decide +kernel)⟩
theorem lw_p68 : lw_okq (⟨"LineKeeper$Melter", "addFrames", "(I)V"⟩, 10) := ⟨⟨by decide +kernel, by decide +kernel⟩, List.mem_of_getElem? (i := 296) (by decide +kernel), List.mem_of_getElem? (i := 1123) (by decide +kernel), List.mem_of_getElem? (i := 1124) (by decide +kernel)⟩
theorem lw_p69 : lw_okq (⟨"LineKeeper$Melter", "addEntry", "()V"⟩, 10) := ⟨⟨by decide +kernel, by decide +kernel⟩, List.mem_of_getElem? (i := 296) (by decide +kernel), List.mem_of_getElem? (i := 1133) (by decide +kernel), List.mem_of_getElem? (i := 1134) (by decide +kernel)⟩
theorem lw_p70 : lw_okq (⟨"LineKeeper$Melter", "addRow", "(III)V"⟩, 10) := ⟨⟨by decide +kernel, by decide +kernel⟩, List.mem_of_getElem? (i := 296) (by decide +kernel), List.mem_of_getElem? (i := 1137) (by decide +kernel), List.mem_of_getElem? (i := 1138) (by decide +kernel)⟩
theorem lw_p71 : lw_okq (⟨"LineKeeper$Melter", "addCopy", "(III)V"⟩, 10) := ⟨⟨by decide +kernel, by decide +kernel⟩, List.mem_of_getElem? (i := 296) (by decide +kernel), List.mem_of_getElem? (i := 1142) (by decide +kernel), List.mem_of_getElem? (i := 1143) (by decide +kernel)⟩
theorem lw_p72 : lw_okq (⟨"LineKeeper$Melter", "addBody", "()V"⟩, 10) := ⟨⟨by decide +kernel, by decide +kernel⟩, List.mem_of_getElem? (i := 296) (by decide +kernel), List.mem_of_getElem? (i := 1147) (by decide +kernel), List.mem_of_getElem? (i := 1148) (by decide +kernel)⟩
theorem lw_p73 : lw_okq (⟨"LineKeeper$Melter", "addItem", "(I)V"⟩, 10) := ⟨⟨by decide +kernel, by decide +kernel⟩, List.mem_of_getElem? (i := 296) (by decide +kernel), List.mem_of_getElem? (i := 1151) (by decide +kernel), List.mem_of_getElem? (i := 1152) (by decide +kernel)⟩
theorem lw_p74 : lw_okq (⟨"LineKeeper$Melter", "shiftOf", "(I)I"⟩, 10) := ⟨⟨by decide +kernel, by decide +kernel⟩, List.mem_of_getElem? (i := 296) (by decide +kernel), List.mem_of_getElem? (i := 1155) (by decide +kernel), List.mem_of_getElem? (i := 1156) (by decide +kernel)⟩
theorem lw_p75 : lw_okq (⟨"LineKeeper$Sharer", "findFirst", "(LLineKeeper$Code;)V"⟩, 9) := ⟨⟨by decide +kernel, by decide +kernel⟩, List.mem_of_getElem? (i := 333) (by decide +kernel), List.mem_of_getElem? (i := 1167) (by decide +kernel), List.mem_of_getElem? (i := 1168) (by decide +kernel)⟩
theorem lw_p76 : lw_okq (⟨"LineKeeper$Sharer", "findOdds", "(LLineKeeper$Code;I)V"⟩, 9) := ⟨⟨by decide +kernel, by decide +kernel⟩, List.mem_of_getElem? (i := 333) (by decide +kernel), List.mem_of_getElem? (i := 1174) (by decide +kernel), List.mem_of_getElem? (i := 1175) (by decide +kernel)⟩
theorem lw_p77 : lw_okq (⟨"LineKeeper$Sharer", "addOdds", "([JIII)V"⟩, 9) := ⟨⟨by decide +kernel, by decide +kernel⟩, List.mem_of_getElem? (i := 333) (by decide +kernel), List.mem_of_getElem? (i := 1180) (by decide +kernel), List.mem_of_getElem? (i := 1181) (by decide +kernel)⟩
theorem lw_p78 : lw_okq (⟨"LineKeeper$Sharer", "numberAnew", "(I)V"⟩, 9) := ⟨⟨by decide +kernel, by decide +kernel⟩, List.mem_of_getElem? (i := 333) (by decide +kernel), List.mem_of_getElem? (i := 1185) (by decide +kernel), List.mem_of_getElem? (i := 1186) (by decide +kernel)⟩
theorem lw_p79 : lw_okq (⟨"LineKeeper$Sharer", "meets", "(II)Z"⟩, 9) := ⟨⟨by decide +kernel, by decide +kernel⟩, List.mem_of_getElem? (i := 333) (by decide +kernel), List.mem_of_getElem? (i := 1189) (by decide +kernel), List.mem_of_getElem? (i := 1190) (by decide +kernel)⟩
def lw_privs_5 : List (MethodName × Nat) := [(⟨"LineKeeper$Melter", "isSmall", "()Z"⟩, 10), (⟨"LineKeeper$Melter", "meltAt", "(I)Z"⟩, 10), (⟨"LineKeeper$Melter", "rowsNeeded", "()I"⟩, 10), (⟨"LineKeeper$Melter", "needsNought", "(I)Z"⟩, 10), (⟨"LineKeeper$Melter", "addFrames", "(I)V"⟩, 10), (⟨"LineKeeper$Melter", "addEntry", "()V"⟩, 10), (⟨"LineKeeper$Melter", "addRow", "(III)V"⟩, 10), (⟨"LineKeeper$Melter", "addCopy", "(III)V"⟩, 10), (⟨"LineKeeper$Melter", "addBody", "()V"⟩, 10), (⟨"LineKeeper$Melter", "addItem", "(I)V"⟩, 10), (⟨"LineKeeper$Melter", "shiftOf", "(I)I"⟩, 10), (⟨"LineKeeper$Sharer", "findFirst", "(LLineKeeper$Code;)V"⟩, 9), (⟨"LineKeeper$Sharer", "findOdds", "(LLineKeeper$Code;I)V"⟩, 9), (⟨"LineKeeper$Sharer", "addOdds", "([JIII)V"⟩, 9), (⟨"LineKeeper$Sharer", "numberAnew", "(I)V"⟩, 9), (⟨"LineKeeper$Sharer", "meets", "(II)Z"⟩, 9)]
theorem lw_r5 : ∀ q ∈ lw_privs_5, lw_okq q := List.forall_mem_cons.mpr ⟨lw_p64, List.forall_mem_cons.mpr ⟨lw_p65, List.forall_mem_cons.mpr ⟨lw_p66, List.forall_mem_cons.mpr ⟨lw_p67, List.forall_mem_cons.mpr ⟨lw_p68, List.forall_mem_cons.mpr ⟨lw_p69, List.forall_mem_cons.mpr ⟨lw_p70, List.forall_mem_cons.mpr ⟨lw_p71, List.forall_mem_cons.mpr ⟨lw_p72, List.forall_mem_cons.mpr ⟨lw_p73, List.forall_mem_cons.mpr ⟨lw_p74, List.forall_mem_cons.mpr ⟨lw_p75, List.forall_mem_cons.mpr ⟨lw_p76, List.forall_mem_cons.mpr ⟨lw_p77, List.forall_mem_cons.mpr ⟨lw_p78, List.forall_mem_cons.mpr ⟨lw_p79, fun _ h => absurd h List.not_mem_nil⟩⟩⟩⟩⟩⟩⟩⟩⟩⟩⟩⟩⟩⟩⟩⟩
theorem lw_p80 : lw_okq (⟨"LineKeeper$Sharer", "findLatest", "(LLineKeeper$Code;)V"⟩, 9) := ⟨⟨by decide +kernel, by decide +kernel⟩, List.mem_of_getElem? (i := 333) (by decide +kernel), List.mem_of_getElem? (i := 1195) (by decide +kernel), List.mem_of_getElem? (i := 1196) (by decide +kernel)⟩
theorem lw_p81 : lw_okq (⟨"LineKeeper$Sharer", "goThrough", "(LLineKeeper$Code;I)V"⟩, 9) := ⟨⟨by decide +kernel, by decide +kernel⟩, List.mem_of_getElem? (i := 333) (by decide +kernel), List.mem_of_getElem? (i := 1202) (by decide +kernel), List.mem_of_getElem? (i := 1203) (by decide +kernel)⟩
theorem lw_p82 : lw_okq (⟨"LineKeeper$Sharer", "comeTo", "(LLineKeeper$Code;I)V"⟩, 9) := ⟨⟨by decide +kernel, by decide +kernel⟩, List.mem_of_getElem? (i := 333) (by decide +kernel), List.mem_of_getElem? (i := 1209) (by decide +kernel), List.mem_of_getElem? (i := 1210) (by decide +kernel)⟩
theorem lw_p83 : lw_okq (⟨"LineKeeper$Sharer", "leansOnLost", "(LLineKeeper$Code;II)Z"⟩, 9) := ⟨⟨by decide +kernel, by decide +kernel⟩, List.mem_of_getElem? (i := 333) (by decide +kernel), List.mem_of_getElem? (i := 1214) (by decide +kernel), List.mem_of_getElem? (i := 1215) (by decide +kernel)⟩
theorem lw_p84 : lw_okq (⟨"LineKeeper$Sharer", "renumber", "(LLineKeeper$Code;)V"⟩, 9) := ⟨⟨by decide +kernel, by decide +kernel⟩, List.mem_of_getElem? (i := 333) (by decide +kernel), List.mem_of_getElem? (i := 1221) (by decide +kernel), List.mem_of_getElem? (i := 1222) (by decide +kernel)⟩
theorem lw_p85 : lw_okq (⟨"LineKeeper$Run", "openCall", "(II)V"⟩, 17) := ⟨⟨by decide +kernel, by decide +kernel⟩, List.mem_of_getElem? (i := 368) (by decide +kernel), List.mem_of_getElem? (i := 1234) (by decide +kernel), List.mem_of_getElem? (i := 1235) (by decide +kernel)⟩
theorem lw_p86 : lw_okq (⟨"LineKeeper$Run", "codeAt", "(I)LLineKeeper$Code;"⟩, 17) := ⟨⟨by decide +kernel, by decide +kernel⟩, List.mem_of_getElem? (i := 368) (by decide +kernel), List.mem_of_getElem? (i := 1238) (by decide +kernel), List.mem_of_getElem? (i := 1239) (by decide +kernel)⟩
theorem lw_p87 : lw_okq (⟨"LineKeeper$Run", "homeOfParam", "(I)I"⟩, 17) := ⟨⟨by decide +kernel, by decide +kernel⟩, List.mem_of_getElem? (i := 368) (by decide +kernel), List.mem_of_getElem? (i := 1244) (by decide +kernel), List.mem_of_getElem? (i := 1245) (by decide +kernel)⟩
theorem lw_p88 : lw_okq (⟨"LineKeeper$Run", "operand", "(II)I"⟩, 17) := ⟨⟨by decide +kernel, by decide +kernel⟩, List.mem_of_getElem? (i := 368) (by decide +kernel), List.mem_of_getElem? (i := 1267) (by decide +kernel), List.mem_of_getElem? (i := 1268) (by decide +kernel)⟩
theorem lw_p89 : lw_okq (⟨"LineKeeper$Run", "emit", "(I)V"⟩, 17) := ⟨⟨by decide +kernel, by decide +kernel⟩, List.mem_of_getElem? (i := 368) (by decide +kernel), List.mem_of_getElem? (i := 1272) (by decide +kernel), List.mem_of_getElem? (i := 1273) (by decide +kernel)⟩
theorem lw_p90 : lw_okq (⟨"LineKeeper$Run", "callFrom", "(I)V"⟩, 17) := ⟨⟨by decide +kernel, by decide +kernel⟩, List.mem_of_getElem? (i := 368) (by decide +kernel), List.mem_of_getElem? (i := 1276) (by decide +kernel), List.mem_of_getElem? (i := 1277) (by decide +kernel)⟩
theorem lw_p91 : lw_okq (⟨"LineKeeper$Run", "giveBack", "(I)V"⟩, 17) := ⟨⟨by decide +kernel, by decide +kernel⟩, List.mem_of_getElem? (i := 368) (by decide +kernel), List.mem_of_getElem? (i := 1280) (by decide +kernel), List.mem_of_getElem? (i := 1281) (by decide +kernel)⟩
theorem lw_p92 : lw_okq (⟨"LineKeeper$Run", "chainOf", "(I)I"⟩, 17) := ⟨⟨by decide +kernel, by decide +kernel⟩, List.mem_of_getElem? (i := 368) (by decide +kernel), List.mem_of_getElem? (i := 1284) (by decide +kernel), List.mem_of_getElem? (i := 1285) (by decide +kernel)⟩
theorem lw_p93 : lw_okq (⟨"LineKeeper$Run", "reckonAt", "(II)V"⟩, 17) := ⟨⟨by decide +kernel, by decide +kernel⟩, List.mem_of_getElem? (i := 368) (by decide +kernel), List.mem_of_getElem? (i := 1288) (by decide +kernel), List.mem_of_getElem? (i := 1289) (by decide +kernel)⟩
theorem lw_p94 : lw_okq (⟨"LineKeeper$Run", "stops", "(II)Z"⟩, 17) := ⟨⟨by decide +kernel, by decide +kernel⟩, List.mem_of_getElem? (i := 368) (by decide +kernel), List.mem_of_getElem? (i := 1294) (by decide +kernel), List.mem_of_getElem? (i := 1295) (by decide +kernel)⟩
theorem lw_p95 : lw_okq (⟨"LineKeeper$Run", "climb", "(I)V"⟩, 17) := ⟨⟨by decide +kernel, by decide +kernel⟩, List.mem_of_getElem? (i := 368) (by decide +kernel), List.mem_of_getElem? (i := 1306) (by decide +kernel), List.mem_of_getElem? (i := 1307) (by decide +kernel)⟩
def lw_privs_6 : List (MethodName × Nat) := [(⟨"LineKeeper$Sharer", "findLatest", "(LLineKeeper$Code;)V"⟩, 9), (⟨"LineKeeper$Sharer", "goThrough", "(LLineKeeper$Code;I)V"⟩, 9), (⟨"LineKeeper$Sharer", "comeTo", "(LLineKeeper$Code;I)V"⟩, 9), (⟨"LineKeeper$Sharer", "leansOnLost", "(LLineKeeper$Code;II)Z"⟩, 9), (⟨"LineKeeper$Sharer", "renumber", "(LLineKeeper$Code;)V"⟩, 9), (⟨"LineKeeper$Run", "openCall", "(II)V"⟩, 17), (⟨"LineKeeper$Run", "codeAt", "(I)LLineKeeper$Code;"⟩, 17), (⟨"LineKeeper$Run", "homeOfParam", "(I)I"⟩, 17), (⟨"LineKeeper$Run", "operand", "(II)I"⟩, 17), (⟨"LineKeeper$Run", "emit", "(I)V"⟩, 17), (⟨"LineKeeper$Run", "callFrom", "(I)V"⟩, 17), (⟨"LineKeeper$Run", "giveBack", "(I)V"⟩, 17), (⟨"LineKeeper$Run", "chainOf", "(I)I"⟩, 17), (⟨"LineKeeper$Run", "reckonAt", "(II)V"⟩, 17), (⟨"LineKeeper$Run", "stops", "(II)Z"⟩, 17), (⟨"LineKeeper$Run", "climb", "(I)V"⟩, 17)]
theorem lw_r6 : ∀ q ∈ lw_privs_6, lw_okq q := List.forall_mem_cons.mpr ⟨lw_p80, List.forall_mem_cons.mpr ⟨lw_p81, List.forall_mem_cons.mpr ⟨lw_p82, List.forall_mem_cons.mpr ⟨lw_p83, List.forall_mem_cons.mpr ⟨lw_p84, List.forall_mem_cons.mpr ⟨lw_p85, List.forall_mem_cons.mpr ⟨lw_p86, List.forall_mem_cons.mpr ⟨lw_p87, List.forall_mem_cons.mpr ⟨lw_p88, List.forall_mem_cons.mpr ⟨lw_p89, List.forall_mem_cons.mpr ⟨lw_p90, List.forall_mem_cons.mpr ⟨lw_p91, List.forall_mem_cons.mpr ⟨lw_p92, List.forall_mem_cons.mpr ⟨lw_p93, List.forall_mem_cons.mpr ⟨lw_p94, List.forall_mem_cons.mpr ⟨lw_p95, fun _ h => absurd h List.not_mem_nil⟩⟩⟩⟩⟩⟩⟩⟩⟩⟩⟩⟩⟩⟩⟩⟩
theorem lw_p96 : lw_okq (⟨"LineKeeper$Beside", "plainLine", "()Z"⟩, 5) := ⟨⟨by decide +kernel, by decide +kernel⟩, List.mem_of_getElem? (i := 1373) (by decide +kernel), List.mem_of_getElem? (i := 1407) (by decide +kernel), List.mem_of_getElem? (i := 1408) (by decide +kernel)⟩
theorem lw_p97 : lw_okq (⟨"LineKeeper$Beside", "samePrints", "()Z"⟩, 5) := ⟨⟨by decide +kernel, by decide +kernel⟩, List.mem_of_getElem? (i := 1373) (by decide +kernel), List.mem_of_getElem? (i := 1412) (by decide +kernel), List.mem_of_getElem? (i := 1413) (by decide +kernel)⟩
theorem lw_p98 : lw_okq (⟨"LineKeeper$Beside", "sameStack", "(LLineKeeper$Told;)Z"⟩, 5) := ⟨⟨by decide +kernel, by decide +kernel⟩, List.mem_of_getElem? (i := 1373) (by decide +kernel), List.mem_of_getElem? (i := 1416) (by decide +kernel), List.mem_of_getElem? (i := 1417) (by decide +kernel)⟩
theorem lw_p99 : lw_okq (⟨"LineKeeper$Beside", "sameNames", "(LLineKeeper$Told;)Z"⟩, 5) := ⟨⟨by decide +kernel, by decide +kernel⟩, List.mem_of_getElem? (i := 1373) (by decide +kernel), List.mem_of_getElem? (i := 1423) (by decide +kernel), List.mem_of_getElem? (i := 1424) (by decide +kernel)⟩
theorem lw_p100 : lw_okq (⟨"LineKeeperModel", "four", "(I)V"⟩, 87) := ⟨⟨by decide +kernel, by decide +kernel⟩, List.mem_of_getElem? (i := 1439) (by decide +kernel), List.mem_of_getElem? (i := 1713) (by decide +kernel), List.mem_of_getElem? (i := 1714) (by decide +kernel)⟩
theorem lw_p101 : lw_okq (⟨"LineKeeperModel", "goOver", "(I)Z"⟩, 87) := ⟨⟨by decide +kernel, by decide +kernel⟩, List.mem_of_getElem? (i := 1439) (by decide +kernel), List.mem_of_getElem? (i := 1728) (by decide +kernel), List.mem_of_getElem? (i := 1729) (by decide +kernel)⟩
theorem lw_p102 : lw_okq (⟨"LineKeeperModel", "advance", "()V"⟩, 87) := ⟨⟨by decide +kernel, by decide +kernel⟩, List.mem_of_getElem? (i := 1439) (by decide +kernel), List.mem_of_getElem? (i := 1732) (by decide +kernel), List.mem_of_getElem? (i := 1733) (by decide +kernel)⟩
theorem lw_p103 : lw_okq (⟨"LineKeeperModel", "see", "(I)I"⟩, 87) := ⟨⟨by decide +kernel, by decide +kernel⟩, List.mem_of_getElem? (i := 1439) (by decide +kernel), List.mem_of_getElem? (i := 1736) (by decide +kernel), List.mem_of_getElem? (i := 1737) (by decide +kernel)⟩
theorem lw_p104 : lw_okq (⟨"LineKeeperModel", "oneRoutine", "()Z"⟩, 87) := ⟨⟨by decide +kernel, by decide +kernel⟩, List.mem_of_getElem? (i := 1439) (by decide +kernel), List.mem_of_getElem? (i := 1829) (by decide +kernel), List.mem_of_getElem? (i := 1830) (by decide +kernel)⟩
theorem lw_p105 : lw_okq (⟨"LineKeeperModel", "isName", "()Z"⟩, 87) := ⟨⟨by decide +kernel, by decide +kernel⟩, List.mem_of_getElem? (i := 1439) (by decide +kernel), List.mem_of_getElem? (i := 1833) (by decide +kernel), List.mem_of_getElem? (i := 1834) (by decide +kernel)⟩
theorem lw_p106 : lw_okq (⟨"LineKeeperModel", "wrong", "()Z"⟩, 87) := ⟨⟨by decide +kernel, by decide +kernel⟩, List.mem_of_getElem? (i := 1439) (by decide +kernel), List.mem_of_getElem? (i := 1842) (by decide +kernel), List.mem_of_getElem? (i := 1843) (by decide +kernel)⟩
theorem lw_p107 : lw_okq (⟨"LineKeeperModel", "note", "(II)V"⟩, 87) := ⟨⟨by decide +kernel, by decide +kernel⟩, List.mem_of_getElem? (i := 1439) (by decide +kernel), List.mem_of_getElem? (i := 1846) (by decide +kernel), List.mem_of_getElem? (i := 1847) (by decide +kernel)⟩
theorem lw_p108 : lw_okq (⟨"LineKeeperModel", "routineBy", "(J)I"⟩, 87) := ⟨⟨by decide +kernel, by decide +kernel⟩, List.mem_of_getElem? (i := 1439) (by decide +kernel), List.mem_of_getElem? (i := 1850) (by decide +kernel), List.mem_of_getElem? (i := 1851) (by decide +kernel)⟩
theorem lw_p109 : lw_okq (⟨"LineKeeperModel", "need", "(I)Z"⟩, 87) := ⟨⟨by decide +kernel, by decide +kernel⟩, List.mem_of_getElem? (i := 1439) (by decide +kernel), List.mem_of_getElem? (i := 1854) (by decide +kernel), List.mem_of_getElem? (i := 1855) (by decide +kernel)⟩
theorem lw_p110 : lw_okq (⟨"LineKeeperModel", "isSign", "(I)Z"⟩, 87) := ⟨⟨by decide +kernel, by decide +kernel⟩, List.mem_of_getElem? (i := 1439) (by decide +kernel), List.mem_of_getElem? (i := 1858) (by decide +kernel), List.mem_of_getElem? (i := 1859) (by decide +kernel)⟩
theorem lw_p111 : lw_okq (⟨"LineKeeperModel", "isKept", "()Z"⟩, 87) := ⟨⟨by decide +kernel, by decide +kernel⟩, List.mem_of_getElem? (i := 1439) (by decide +kernel), List.mem_of_getElem? (i := 1862) (by decide +kernel), List.mem_of_getElem? (i := 1863) (by decide +kernel)⟩
def lw_privs_7 : List (MethodName × Nat) := [(⟨"LineKeeper$Beside", "plainLine", "()Z"⟩, 5), (⟨"LineKeeper$Beside", "samePrints", "()Z"⟩, 5), (⟨"LineKeeper$Beside", "sameStack", "(LLineKeeper$Told;)Z"⟩, 5), (⟨"LineKeeper$Beside", "sameNames", "(LLineKeeper$Told;)Z"⟩, 5), (⟨"LineKeeperModel", "four", "(I)V"⟩, 87), (⟨"LineKeeperModel", "goOver", "(I)Z"⟩, 87), (⟨"LineKeeperModel", "advance", "()V"⟩, 87), (⟨"LineKeeperModel", "see", "(I)I"⟩, 87), (⟨"LineKeeperModel", "oneRoutine", "()Z"⟩, 87), (⟨"LineKeeperModel", "isName", "()Z"⟩, 87), (⟨"LineKeeperModel", "wrong", "()Z"⟩, 87), (⟨"LineKeeperModel", "note", "(II)V"⟩, 87), (⟨"LineKeeperModel", "routineBy", "(J)I"⟩, 87), (⟨"LineKeeperModel", "need", "(I)Z"⟩, 87), (⟨"LineKeeperModel", "isSign", "(I)Z"⟩, 87), (⟨"LineKeeperModel", "isKept", "()Z"⟩, 87)]
theorem lw_r7 : ∀ q ∈ lw_privs_7, lw_okq q := List.forall_mem_cons.mpr ⟨lw_p96, List.forall_mem_cons.mpr ⟨lw_p97, List.forall_mem_cons.mpr ⟨lw_p98, List.forall_mem_cons.mpr ⟨lw_p99, List.forall_mem_cons.mpr ⟨lw_p100, List.forall_mem_cons.mpr ⟨lw_p101, List.forall_mem_cons.mpr ⟨lw_p102, List.forall_mem_cons.mpr ⟨lw_p103, List.forall_mem_cons.mpr ⟨lw_p104, List.forall_mem_cons.mpr ⟨lw_p105, List.forall_mem_cons.mpr ⟨lw_p106, List.forall_mem_cons.mpr ⟨lw_p107, List.forall_mem_cons.mpr ⟨lw_p108, List.forall_mem_cons.mpr ⟨lw_p109, List.forall_mem_cons.mpr ⟨lw_p110, List.forall_mem_cons.mpr ⟨lw_p111, fun _ h => absurd h List.not_mem_nil⟩⟩⟩⟩⟩⟩⟩⟩⟩⟩⟩⟩⟩⟩⟩⟩
theorem lw_p112 : lw_okq (⟨"LineKeeperModel", "nameOf", "(JI)I"⟩, 87) := ⟨⟨by decide +kernel, by decide +kernel⟩, List.mem_of_getElem? (i := 1439) (by decide +kernel), List.mem_of_getElem? (i := 1866) (by decide +kernel), List.mem_of_getElem? (i := 1867) (by decide +kernel)⟩
theorem lw_p113 : lw_okq (⟨"LineKeeperModel", "block", "()Z"⟩, 87) := ⟨⟨by decide +kernel, by decide +kernel⟩, List.mem_of_getElem? (i := 1439) (by decide +kernel), List.mem_of_getElem? (i := 1870) (by decide +kernel), List.mem_of_getElem? (i := 1871) (by decide +kernel)⟩
theorem lw_p114 : lw_okq (⟨"LineKeeperModel", "statement", "()Z"⟩, 87) := ⟨⟨by decide +kernel, by decide +kernel⟩, List.mem_of_getElem? (i := 1439) (by decide +kernel), List.mem_of_getElem? (i := 1874) (by decide +kernel), List.mem_of_getElem? (i := 1875) (by decide +kernel)⟩
theorem lw_p115 : lw_okq (⟨"LineKeeperModel", "isWord", "(J)Z"⟩, 87) := ⟨⟨by decide +kernel, by decide +kernel⟩, List.mem_of_getElem? (i := 1439) (by decide +kernel), List.mem_of_getElem? (i := 1878) (by decide +kernel), List.mem_of_getElem? (i := 1879) (by decide +kernel)⟩
theorem lw_p116 : lw_okq (⟨"LineKeeperModel", "whileStatement", "()Z"⟩, 87) := ⟨⟨by decide +kernel, by decide +kernel⟩, List.mem_of_getElem? (i := 1439) (by decide +kernel), List.mem_of_getElem? (i := 1882) (by decide +kernel), List.mem_of_getElem? (i := 1883) (by decide +kernel)⟩
theorem lw_p117 : lw_okq (⟨"LineKeeperModel", "put", "(III)I"⟩, 87) := ⟨⟨by decide +kernel, by decide +kernel⟩, List.mem_of_getElem? (i := 1439) (by decide +kernel), List.mem_of_getElem? (i := 1886) (by decide +kernel), List.mem_of_getElem? (i := 1887) (by decide +kernel)⟩
theorem lw_p118 : lw_okq (⟨"LineKeeperModel", "at", "(II)I"⟩, 87) := ⟨⟨by decide +kernel, by decide +kernel⟩, List.mem_of_getElem? (i := 1439) (by decide +kernel), List.mem_of_getElem? (i := 1890) (by decide +kernel), List.mem_of_getElem? (i := 1891) (by decide +kernel)⟩
theorem lw_p119 : lw_okq (⟨"LineKeeperModel", "setItem", "(IIII)V"⟩, 87) := ⟨⟨by decide +kernel, by decide +kernel⟩, List.mem_of_getElem? (i := 1439) (by decide +kernel), List.mem_of_getElem? (i := 1894) (by decide +kernel), List.mem_of_getElem? (i := 1895) (by decide +kernel)⟩
theorem lw_p120 : lw_okq (⟨"LineKeeperModel", "expression", "()Z"⟩, 87) := ⟨⟨by decide +kernel, by decide +kernel⟩, List.mem_of_getElem? (i := 1439) (by decide +kernel), List.mem_of_getElem? (i := 1898) (by decide +kernel), List.mem_of_getElem? (i := 1899) (by decide +kernel)⟩
theorem lw_p121 : lw_okq (⟨"LineKeeperModel", "sum", "()Z"⟩, 87) := ⟨⟨by decide +kernel, by decide +kernel⟩, List.mem_of_getElem? (i := 1439) (by decide +kernel), List.mem_of_getElem? (i := 1902) (by decide +kernel), List.mem_of_getElem? (i := 1903) (by decide +kernel)⟩
theorem lw_p122 : lw_okq (⟨"LineKeeperModel", "product", "()Z"⟩, 87) := ⟨⟨by decide +kernel, by decide +kernel⟩, List.mem_of_getElem? (i := 1439) (by decide +kernel), List.mem_of_getElem? (i := 1906) (by decide +kernel), List.mem_of_getElem? (i := 1907) (by decide +kernel)⟩
theorem lw_p123 : lw_okq (⟨"LineKeeperModel", "signed", "()Z"⟩, 87) := ⟨⟨by decide +kernel, by decide +kernel⟩, List.mem_of_getElem? (i := 1439) (by decide +kernel), List.mem_of_getElem? (i := 1910) (by decide +kernel), List.mem_of_getElem? (i := 1911) (by decide +kernel)⟩
theorem lw_p124 : lw_okq (⟨"LineKeeperModel", "give", "(II)V"⟩, 87) := ⟨⟨by decide +kernel, by decide +kernel⟩, List.mem_of_getElem? (i := 1439) (by decide +kernel), List.mem_of_getElem? (i := 1914) (by decide +kernel), List.mem_of_getElem? (i := 1915) (by decide +kernel)⟩
theorem lw_p125 : lw_okq (⟨"LineKeeperModel", "joins", "(IIIII)V"⟩, 87) := ⟨⟨by decide +kernel, by decide +kernel⟩, List.mem_of_getElem? (i := 1439) (by decide +kernel), List.mem_of_getElem? (i := 1918) (by decide +kernel), List.mem_of_getElem? (i := 1919) (by decide +kernel)⟩
theorem lw_p126 : lw_okq (⟨"LineKeeperModel", "setArg", "(IIII)V"⟩, 87) := ⟨⟨by decide +kernel, by decide +kernel⟩, List.mem_of_getElem? (i := 1439) (by decide +kernel), List.mem_of_getElem? (i := 1922) (by decide +kernel), List.mem_of_getElem? (i := 1923) (by decide +kernel)⟩
theorem lw_p127 : lw_okq (⟨"LineKeeperModel", "ifStatement", "()Z"⟩, 87) := ⟨⟨by decide +kernel, by decide +kernel⟩, List.mem_of_getElem? (i := 1439) (by decide +kernel), List.mem_of_getElem? (i := 1926) (by decide +kernel), List.mem_of_getElem? (i := 1927) (by decide +kernel)⟩
def lw_privs_8 : List (MethodName × Nat) := [(⟨"LineKeeperModel", "nameOf", "(JI)I"⟩, 87), (⟨"LineKeeperModel", "block", "()Z"⟩, 87), (⟨"LineKeeperModel", "statement", "()Z"⟩, 87), (⟨"LineKeeperModel", "isWord", "(J)Z"⟩, 87), (⟨"LineKeeperModel", "whileStatement", "()Z"⟩, 87), (⟨"LineKeeperModel", "put", "(III)I"⟩, 87), (⟨"LineKeeperModel", "at", "(II)I"⟩, 87), (⟨"LineKeeperModel", "setItem", "(IIII)V"⟩, 87), (⟨"LineKeeperModel", "expression", "()Z"⟩, 87), (⟨"LineKeeperModel", "sum", "()Z"⟩, 87), (⟨"LineKeeperModel", "product", "()Z"⟩, 87), (⟨"LineKeeperModel", "signed", "()Z"⟩, 87), (⟨"LineKeeperModel", "give", "(II)V"⟩, 87), (⟨"LineKeeperModel", "joins", "(IIIII)V"⟩, 87), (⟨"LineKeeperModel", "setArg", "(IIII)V"⟩, 87), (⟨"LineKeeperModel", "ifStatement", "()Z"⟩, 87)]
theorem lw_r8 : ∀ q ∈ lw_privs_8, lw_okq q := List.forall_mem_cons.mpr ⟨lw_p112, List.forall_mem_cons.mpr ⟨lw_p113, List.forall_mem_cons.mpr ⟨lw_p114, List.forall_mem_cons.mpr ⟨lw_p115, List.forall_mem_cons.mpr ⟨lw_p116, List.forall_mem_cons.mpr ⟨lw_p117, List.forall_mem_cons.mpr ⟨lw_p118, List.forall_mem_cons.mpr ⟨lw_p119, List.forall_mem_cons.mpr ⟨lw_p120, List.forall_mem_cons.mpr ⟨lw_p121, List.forall_mem_cons.mpr ⟨lw_p122, List.forall_mem_cons.mpr ⟨lw_p123, List.forall_mem_cons.mpr ⟨lw_p124, List.forall_mem_cons.mpr ⟨lw_p125, List.forall_mem_cons.mpr ⟨lw_p126, List.forall_mem_cons.mpr ⟨lw_p127, fun _ h => absurd h List.not_mem_nil⟩⟩⟩⟩⟩⟩⟩⟩⟩⟩⟩⟩⟩⟩⟩⟩
theorem lw_p128 : lw_okq (⟨"LineKeeperModel", "assignment", "()Z"⟩, 87) := ⟨⟨by decide +kernel, by decide +kernel⟩, List.mem_of_getElem? (i := 1439) (by decide +kernel), List.mem_of_getElem? (i := 1930) (by decide +kernel), List.mem_of_getElem? (i := 1931) (by decide +kernel)⟩
theorem lw_p129 : lw_okq (⟨"LineKeeperModel", "call", "(IJI)Z"⟩, 87) := ⟨⟨by decide +kernel, by decide +kernel⟩, List.mem_of_getElem? (i := 1439) (by decide +kernel), List.mem_of_getElem? (i := 1934) (by decide +kernel), List.mem_of_getElem? (i := 1935) (by decide +kernel)⟩
theorem lw_p130 : lw_okq (⟨"LineKeeperModel", "calledMany", "(I)I"⟩, 87) := ⟨⟨by decide +kernel, by decide +kernel⟩, List.mem_of_getElem? (i := 1439) (by decide +kernel), List.mem_of_getElem? (i := 1938) (by decide +kernel), List.mem_of_getElem? (i := 1939) (by decide +kernel)⟩
theorem lw_p131 : lw_okq (⟨"LineKeeperModel", "bind", "(I)V"⟩, 87) := ⟨⟨by decide +kernel, by decide +kernel⟩, List.mem_of_getElem? (i := 1439) (by decide +kernel), List.mem_of_getElem? (i := 1942) (by decide +kernel), List.mem_of_getElem? (i := 1943) (by decide +kernel)⟩
theorem lw_p132 : lw_okq (⟨"LineKeeperModel", "copyItem", "(II)V"⟩, 87) := ⟨⟨by decide +kernel, by decide +kernel⟩, List.mem_of_getElem? (i := 1439) (by decide +kernel), List.mem_of_getElem? (i := 1946) (by decide +kernel), List.mem_of_getElem? (i := 1947) (by decide +kernel)⟩
theorem lw_p133 : lw_okq (⟨"LineKeeperModel", "isRoutine", "(I)Z"⟩, 87) := ⟨⟨by decide +kernel, by decide +kernel⟩, List.mem_of_getElem? (i := 1439) (by decide +kernel), List.mem_of_getElem? (i := 1958) (by decide +kernel), List.mem_of_getElem? (i := 1959) (by decide +kernel)⟩
theorem lw_p134 : lw_okq (⟨"LineKeeperModel", "acts", "(I)I"⟩, 87) := ⟨⟨by decide +kernel, by decide +kernel⟩, List.mem_of_getElem? (i := 1439) (by decide +kernel), List.mem_of_getElem? (i := 1962) (by decide +kernel), List.mem_of_getElem? (i := 1963) (by decide +kernel)⟩
theorem lw_p135 : lw_okq (⟨"LineKeeperModel", "registers", "(I)I"⟩, 87) := ⟨⟨by decide +kernel, by decide +kernel⟩, List.mem_of_getElem? (i := 1439) (by decide +kernel), List.mem_of_getElem? (i := 1969) (by decide +kernel), List.mem_of_getElem? (i := 1970) (by decide +kernel)⟩
theorem lw_p136 : lw_okq (⟨"LineKeeperModel", "args", "(I)I"⟩, 87) := ⟨⟨by decide +kernel, by decide +kernel⟩, List.mem_of_getElem? (i := 1439) (by decide +kernel), List.mem_of_getElem? (i := 1976) (by decide +kernel), List.mem_of_getElem? (i := 1977) (by decide +kernel)⟩
theorem lw_p137 : lw_okq (⟨"LineKeeperModel", "findStates", "(I)V"⟩, 87) := ⟨⟨by decide +kernel, by decide +kernel⟩, List.mem_of_getElem? (i := 1439) (by decide +kernel), List.mem_of_getElem? (i := 1995) (by decide +kernel), List.mem_of_getElem? (i := 1996) (by decide +kernel)⟩
theorem lw_p138 : lw_okq (⟨"LineKeeperModel", "findLabels", "(I)V"⟩, 87) := ⟨⟨by decide +kernel, by decide +kernel⟩, List.mem_of_getElem? (i := 1439) (by decide +kernel), List.mem_of_getElem? (i := 1999) (by decide +kernel), List.mem_of_getElem? (i := 2000) (by decide +kernel)⟩
theorem lw_p139 : lw_okq (⟨"LineKeeperModel", "setNow", "(IIIIII)V"⟩, 87) := ⟨⟨by decide +kernel, by decide +kernel⟩, List.mem_of_getElem? (i := 1439) (by decide +kernel), List.mem_of_getElem? (i := 2003) (by decide +kernel), List.mem_of_getElem? (i := 2004) (by decide +kernel)⟩
theorem lw_p140 : lw_okq (⟨"LineKeeperModel", "comes", "(II)Z"⟩, 87) := ⟨⟨by decide +kernel, by decide +kernel⟩, List.mem_of_getElem? (i := 1439) (by decide +kernel), List.mem_of_getElem? (i := 2007) (by decide +kernel), List.mem_of_getElem? (i := 2008) (by decide +kernel)⟩
theorem lw_p141 : lw_okq (⟨"LineKeeperModel", "behindItem", "(II)V"⟩, 87) := ⟨⟨by decide +kernel, by decide +kernel⟩, List.mem_of_getElem? (i := 1439) (by decide +kernel), List.mem_of_getElem? (i := 2011) (by decide +kernel), List.mem_of_getElem? (i := 2012) (by decide +kernel)⟩
theorem lw_p142 : lw_okq (⟨"LineKeeperModel", "goesOn", "(III)I"⟩, 87) := ⟨⟨by decide +kernel, by decide +kernel⟩, List.mem_of_getElem? (i := 1439) (by decide +kernel), List.mem_of_getElem? (i := 2015) (by decide +kernel), List.mem_of_getElem? (i := 2016) (by decide +kernel)⟩
theorem lw_p143 : lw_okq (⟨"LineKeeperModel", "fold", "(I)I"⟩, 87) := ⟨⟨by decide +kernel, by decide +kernel⟩, List.mem_of_getElem? (i := 1439) (by decide +kernel), List.mem_of_getElem? (i := 2023) (by decide +kernel), List.mem_of_getElem? (i := 2024) (by decide +kernel)⟩
def lw_privs_9 : List (MethodName × Nat) := [(⟨"LineKeeperModel", "assignment", "()Z"⟩, 87), (⟨"LineKeeperModel", "call", "(IJI)Z"⟩, 87), (⟨"LineKeeperModel", "calledMany", "(I)I"⟩, 87), (⟨"LineKeeperModel", "bind", "(I)V"⟩, 87), (⟨"LineKeeperModel", "copyItem", "(II)V"⟩, 87), (⟨"LineKeeperModel", "isRoutine", "(I)Z"⟩, 87), (⟨"LineKeeperModel", "acts", "(I)I"⟩, 87), (⟨"LineKeeperModel", "registers", "(I)I"⟩, 87), (⟨"LineKeeperModel", "args", "(I)I"⟩, 87), (⟨"LineKeeperModel", "findStates", "(I)V"⟩, 87), (⟨"LineKeeperModel", "findLabels", "(I)V"⟩, 87), (⟨"LineKeeperModel", "setNow", "(IIIIII)V"⟩, 87), (⟨"LineKeeperModel", "comes", "(II)Z"⟩, 87), (⟨"LineKeeperModel", "behindItem", "(II)V"⟩, 87), (⟨"LineKeeperModel", "goesOn", "(III)I"⟩, 87), (⟨"LineKeeperModel", "fold", "(I)I"⟩, 87)]
theorem lw_r9 : ∀ q ∈ lw_privs_9, lw_okq q := List.forall_mem_cons.mpr ⟨lw_p128, List.forall_mem_cons.mpr ⟨lw_p129, List.forall_mem_cons.mpr ⟨lw_p130, List.forall_mem_cons.mpr ⟨lw_p131, List.forall_mem_cons.mpr ⟨lw_p132, List.forall_mem_cons.mpr ⟨lw_p133, List.forall_mem_cons.mpr ⟨lw_p134, List.forall_mem_cons.mpr ⟨lw_p135, List.forall_mem_cons.mpr ⟨lw_p136, List.forall_mem_cons.mpr ⟨lw_p137, List.forall_mem_cons.mpr ⟨lw_p138, List.forall_mem_cons.mpr ⟨lw_p139, List.forall_mem_cons.mpr ⟨lw_p140, List.forall_mem_cons.mpr ⟨lw_p141, List.forall_mem_cons.mpr ⟨lw_p142, List.forall_mem_cons.mpr ⟨lw_p143, fun _ h => absurd h List.not_mem_nil⟩⟩⟩⟩⟩⟩⟩⟩⟩⟩⟩⟩⟩⟩⟩⟩
theorem lw_p144 : lw_okq (⟨"LineKeeperModel", "forgetAll", "()V"⟩, 87) := ⟨⟨by decide +kernel, by decide +kernel⟩, List.mem_of_getElem? (i := 1439) (by decide +kernel), List.mem_of_getElem? (i := 2027) (by decide +kernel), List.mem_of_getElem? (i := 2028) (by decide +kernel)⟩
theorem lw_p145 : lw_okq (⟨"LineKeeperModel", "putsIn", "(I)Z"⟩, 87) := ⟨⟨by decide +kernel, by decide +kernel⟩, List.mem_of_getElem? (i := 1439) (by decide +kernel), List.mem_of_getElem? (i := 2031) (by decide +kernel), List.mem_of_getElem? (i := 2032) (by decide +kernel)⟩
theorem lw_p146 : lw_okq (⟨"LineKeeperModel", "learn", "(I)V"⟩, 87) := ⟨⟨by decide +kernel, by decide +kernel⟩, List.mem_of_getElem? (i := 1439) (by decide +kernel), List.mem_of_getElem? (i := 2038) (by decide +kernel), List.mem_of_getElem? (i := 2039) (by decide +kernel)⟩
theorem lw_p147 : lw_okq (⟨"LineKeeperModel", "dropAll", "(I)I"⟩, 87) := ⟨⟨by decide +kernel, by decide +kernel⟩, List.mem_of_getElem? (i := 1439) (by decide +kernel), List.mem_of_getElem? (i := 2042) (by decide +kernel), List.mem_of_getElem? (i := 2043) (by decide +kernel)⟩
theorem lw_p148 : lw_okq (⟨"LineKeeperModel", "findReached", "(I)V"⟩, 87) := ⟨⟨by decide +kernel, by decide +kernel⟩, List.mem_of_getElem? (i := 1439) (by decide +kernel), List.mem_of_getElem? (i := 2046) (by decide +kernel), List.mem_of_getElem? (i := 2047) (by decide +kernel)⟩
theorem lw_p149 : lw_okq (⟨"LineKeeperModel", "findLives", "(I)V"⟩, 87) := ⟨⟨by decide +kernel, by decide +kernel⟩, List.mem_of_getElem? (i := 1439) (by decide +kernel), List.mem_of_getElem? (i := 2050) (by decide +kernel), List.mem_of_getElem? (i := 2051) (by decide +kernel)⟩
theorem lw_p150 : lw_okq (⟨"LineKeeperModel", "livesBehind", "(III)Z"⟩, 87) := ⟨⟨by decide +kernel, by decide +kernel⟩, List.mem_of_getElem? (i := 1439) (by decide +kernel), List.mem_of_getElem? (i := 2054) (by decide +kernel), List.mem_of_getElem? (i := 2055) (by decide +kernel)⟩
theorem lw_p151 : lw_okq (⟨"LineKeeperModel", "writesTo", "(II)Z"⟩, 87) := ⟨⟨by decide +kernel, by decide +kernel⟩, List.mem_of_getElem? (i := 1439) (by decide +kernel), List.mem_of_getElem? (i := 2058) (by decide +kernel), List.mem_of_getElem? (i := 2059) (by decide +kernel)⟩
theorem lw_p152 : lw_okq (⟨"LineKeeperModel", "leansOn", "(II)Z"⟩, 87) := ⟨⟨by decide +kernel, by decide +kernel⟩, List.mem_of_getElem? (i := 1439) (by decide +kernel), List.mem_of_getElem? (i := 2062) (by decide +kernel), List.mem_of_getElem? (i := 2063) (by decide +kernel)⟩
theorem lw_p153 : lw_okq (⟨"LineKeeperModel", "rebind", "(II)V"⟩, 87) := ⟨⟨by decide +kernel, by decide +kernel⟩, List.mem_of_getElem? (i := 1439) (by decide +kernel), List.mem_of_getElem? (i := 2066) (by decide +kernel), List.mem_of_getElem? (i := 2067) (by decide +kernel)⟩
theorem lw_p154 : lw_okq (⟨"LineKeeperModel", "takeOut", "(II)V"⟩, 87) := ⟨⟨by decide +kernel, by decide +kernel⟩, List.mem_of_getElem? (i := 1439) (by decide +kernel), List.mem_of_getElem? (i := 2070) (by decide +kernel), List.mem_of_getElem? (i := 2071) (by decide +kernel)⟩
theorem lw_p155 : lw_okq (⟨"LineKeeperModel", "moveAll", "(I)I"⟩, 87) := ⟨⟨by decide +kernel, by decide +kernel⟩, List.mem_of_getElem? (i := 1439) (by decide +kernel), List.mem_of_getElem? (i := 2074) (by decide +kernel), List.mem_of_getElem? (i := 2075) (by decide +kernel)⟩
theorem lw_p156 : lw_okq (⟨"LineKeeperModel", "mayMove", "(IIII)Z"⟩, 87) := ⟨⟨by decide +kernel, by decide +kernel⟩, List.mem_of_getElem? (i := 1439) (by decide +kernel), List.mem_of_getElem? (i := 2078) (by decide +kernel), List.mem_of_getElem? (i := 2079) (by decide +kernel)⟩
theorem lw_p157 : lw_okq (⟨"LineKeeperModel", "isName", "(II)Z"⟩, 87) := ⟨⟨by decide +kernel, by decide +kernel⟩, List.mem_of_getElem? (i := 1439) (by decide +kernel), List.mem_of_getElem? (i := 2082) (by decide +kernel), List.mem_of_getElem? (i := 2083) (by decide +kernel)⟩
theorem lw_p158 : lw_okq (⟨"LineKeeperModel", "written", "(IIII)I"⟩, 87) := ⟨⟨by decide +kernel, by decide +kernel⟩, List.mem_of_getElem? (i := 1439) (by decide +kernel), List.mem_of_getElem? (i := 2086) (by decide +kernel), List.mem_of_getElem? (i := 2087) (by decide +kernel)⟩
theorem lw_p159 : lw_okq (⟨"LineKeeperModel", "alike", "(I)I"⟩, 87) := ⟨⟨by decide +kernel, by decide +kernel⟩, List.mem_of_getElem? (i := 1439) (by decide +kernel), List.mem_of_getElem? (i := 2090) (by decide +kernel), List.mem_of_getElem? (i := 2091) (by decide +kernel)⟩
def lw_privs_10 : List (MethodName × Nat) := [(⟨"LineKeeperModel", "forgetAll", "()V"⟩, 87), (⟨"LineKeeperModel", "putsIn", "(I)Z"⟩, 87), (⟨"LineKeeperModel", "learn", "(I)V"⟩, 87), (⟨"LineKeeperModel", "dropAll", "(I)I"⟩, 87), (⟨"LineKeeperModel", "findReached", "(I)V"⟩, 87), (⟨"LineKeeperModel", "findLives", "(I)V"⟩, 87), (⟨"LineKeeperModel", "livesBehind", "(III)Z"⟩, 87), (⟨"LineKeeperModel", "writesTo", "(II)Z"⟩, 87), (⟨"LineKeeperModel", "leansOn", "(II)Z"⟩, 87), (⟨"LineKeeperModel", "rebind", "(II)V"⟩, 87), (⟨"LineKeeperModel", "takeOut", "(II)V"⟩, 87), (⟨"LineKeeperModel", "moveAll", "(I)I"⟩, 87), (⟨"LineKeeperModel", "mayMove", "(IIII)Z"⟩, 87), (⟨"LineKeeperModel", "isName", "(II)Z"⟩, 87), (⟨"LineKeeperModel", "written", "(IIII)I"⟩, 87), (⟨"LineKeeperModel", "alike", "(I)I"⟩, 87)]
theorem lw_r10 : ∀ q ∈ lw_privs_10, lw_okq q := List.forall_mem_cons.mpr ⟨lw_p144, List.forall_mem_cons.mpr ⟨lw_p145, List.forall_mem_cons.mpr ⟨lw_p146, List.forall_mem_cons.mpr ⟨lw_p147, List.forall_mem_cons.mpr ⟨lw_p148, List.forall_mem_cons.mpr ⟨lw_p149, List.forall_mem_cons.mpr ⟨lw_p150, List.forall_mem_cons.mpr ⟨lw_p151, List.forall_mem_cons.mpr ⟨lw_p152, List.forall_mem_cons.mpr ⟨lw_p153, List.forall_mem_cons.mpr ⟨lw_p154, List.forall_mem_cons.mpr ⟨lw_p155, List.forall_mem_cons.mpr ⟨lw_p156, List.forall_mem_cons.mpr ⟨lw_p157, List.forall_mem_cons.mpr ⟨lw_p158, List.forall_mem_cons.mpr ⟨lw_p159, fun _ h => absurd h List.not_mem_nil⟩⟩⟩⟩⟩⟩⟩⟩⟩⟩⟩⟩⟩⟩⟩⟩
theorem lw_p160 : lw_okq (⟨"LineKeeperModel", "isAlike", "(II)Z"⟩, 87) := ⟨⟨by decide +kernel, by decide +kernel⟩, List.mem_of_getElem? (i := 1439) (by decide +kernel), List.mem_of_getElem? (i := 2094) (by decide +kernel), List.mem_of_getElem? (i := 2095) (by decide +kernel)⟩
theorem lw_p161 : lw_okq (⟨"LineKeeperModel", "stands", "(III)Z"⟩, 87) := ⟨⟨by decide +kernel, by decide +kernel⟩, List.mem_of_getElem? (i := 1439) (by decide +kernel), List.mem_of_getElem? (i := 2098) (by decide +kernel), List.mem_of_getElem? (i := 2099) (by decide +kernel)⟩
theorem lw_p162 : lw_okq (⟨"LineKeeperModel", "melt", "(I)I"⟩, 87) := ⟨⟨by decide +kernel, by decide +kernel⟩, List.mem_of_getElem? (i := 1439) (by decide +kernel), List.mem_of_getElem? (i := 2102) (by decide +kernel), List.mem_of_getElem? (i := 2103) (by decide +kernel)⟩
theorem lw_p163 : lw_okq (⟨"LineKeeperModel", "hasCall", "(I)Z"⟩, 87) := ⟨⟨by decide +kernel, by decide +kernel⟩, List.mem_of_getElem? (i := 1439) (by decide +kernel), List.mem_of_getElem? (i := 2106) (by decide +kernel), List.mem_of_getElem? (i := 2107) (by decide +kernel)⟩
theorem lw_p164 : lw_okq (⟨"LineKeeperModel", "isParam", "(II)Z"⟩, 87) := ⟨⟨by decide +kernel, by decide +kernel⟩, List.mem_of_getElem? (i := 1439) (by decide +kernel), List.mem_of_getElem? (i := 2110) (by decide +kernel), List.mem_of_getElem? (i := 2111) (by decide +kernel)⟩
theorem lw_p165 : lw_okq (⟨"LineKeeperModel", "meltOne", "(III)I"⟩, 87) := ⟨⟨by decide +kernel, by decide +kernel⟩, List.mem_of_getElem? (i := 1439) (by decide +kernel), List.mem_of_getElem? (i := 2114) (by decide +kernel), List.mem_of_getElem? (i := 2115) (by decide +kernel)⟩
theorem lw_p166 : lw_okq (⟨"LineKeeperModel", "labels", "(I)I"⟩, 87) := ⟨⟨by decide +kernel, by decide +kernel⟩, List.mem_of_getElem? (i := 1439) (by decide +kernel), List.mem_of_getElem? (i := 2118) (by decide +kernel), List.mem_of_getElem? (i := 2119) (by decide +kernel)⟩
theorem lw_p167 : lw_okq (⟨"LineKeeperModel", "add", "(IIIII)V"⟩, 87) := ⟨⟨by decide +kernel, by decide +kernel⟩, List.mem_of_getElem? (i := 1439) (by decide +kernel), List.mem_of_getElem? (i := 2122) (by decide +kernel), List.mem_of_getElem? (i := 2123) (by decide +kernel)⟩
theorem lw_p168 : lw_okq (⟨"LineKeeperModel", "meltItem", "(IIIIII)V"⟩, 87) := ⟨⟨by decide +kernel, by decide +kernel⟩, List.mem_of_getElem? (i := 1439) (by decide +kernel), List.mem_of_getElem? (i := 2126) (by decide +kernel), List.mem_of_getElem? (i := 2127) (by decide +kernel)⟩
theorem lw_p169 : lw_okq (⟨"LineKeeperModel", "share", "(I)I"⟩, 87) := ⟨⟨by decide +kernel, by decide +kernel⟩, List.mem_of_getElem? (i := 1439) (by decide +kernel), List.mem_of_getElem? (i := 2130) (by decide +kernel), List.mem_of_getElem? (i := 2131) (by decide +kernel)⟩
theorem lw_p170 : lw_okq (⟨"LineKeeperModel", "isAtBegin", "(II)Z"⟩, 87) := ⟨⟨by decide +kernel, by decide +kernel⟩, List.mem_of_getElem? (i := 1439) (by decide +kernel), List.mem_of_getElem? (i := 2134) (by decide +kernel), List.mem_of_getElem? (i := 2135) (by decide +kernel)⟩
theorem lw_p171 : lw_okq (⟨"LineKeeperModel", "atOdds", "(II)V"⟩, 87) := ⟨⟨by decide +kernel, by decide +kernel⟩, List.mem_of_getElem? (i := 1439) (by decide +kernel), List.mem_of_getElem? (i := 2138) (by decide +kernel), List.mem_of_getElem? (i := 2139) (by decide +kernel)⟩
theorem lw_p172 : lw_okq (⟨"LineKeeperModel", "unbind", "(I)V"⟩, 87) := ⟨⟨by decide +kernel, by decide +kernel⟩, List.mem_of_getElem? (i := 1439) (by decide +kernel), List.mem_of_getElem? (i := 2142) (by decide +kernel), List.mem_of_getElem? (i := 2143) (by decide +kernel)⟩
theorem lw_p173 : lw_okq (⟨"LineKeeperModel", "comesLast", "(I)Z"⟩, 87) := ⟨⟨by decide +kernel, by decide +kernel⟩, List.mem_of_getElem? (i := 1439) (by decide +kernel), List.mem_of_getElem? (i := 2146) (by decide +kernel), List.mem_of_getElem? (i := 2147) (by decide +kernel)⟩
theorem lw_p174 : lw_okq (⟨"LineKeeperModel", "renumber", "(I)V"⟩, 87) := ⟨⟨by decide +kernel, by decide +kernel⟩, List.mem_of_getElem? (i := 1439) (by decide +kernel), List.mem_of_getElem? (i := 2150) (by decide +kernel), List.mem_of_getElem? (i := 2151) (by decide +kernel)⟩
theorem lw_p175 : lw_okq (⟨"LineKeeperModel", "startMachine", "(IIIIII)V"⟩, 87) := ⟨⟨by decide +kernel, by decide +kernel⟩, List.mem_of_getElem? (i := 1439) (by decide +kernel), List.mem_of_getElem? (i := 2158) (by decide +kernel), List.mem_of_getElem? (i := 2159) (by decide +kernel)⟩
def lw_privs_11 : List (MethodName × Nat) := [(⟨"LineKeeperModel", "isAlike", "(II)Z"⟩, 87), (⟨"LineKeeperModel", "stands", "(III)Z"⟩, 87), (⟨"LineKeeperModel", "melt", "(I)I"⟩, 87), (⟨"LineKeeperModel", "hasCall", "(I)Z"⟩, 87), (⟨"LineKeeperModel", "isParam", "(II)Z"⟩, 87), (⟨"LineKeeperModel", "meltOne", "(III)I"⟩, 87), (⟨"LineKeeperModel", "labels", "(I)I"⟩, 87), (⟨"LineKeeperModel", "add", "(IIIII)V"⟩, 87), (⟨"LineKeeperModel", "meltItem", "(IIIIII)V"⟩, 87), (⟨"LineKeeperModel", "share", "(I)I"⟩, 87), (⟨"LineKeeperModel", "isAtBegin", "(II)Z"⟩, 87), (⟨"LineKeeperModel", "atOdds", "(II)V"⟩, 87), (⟨"LineKeeperModel", "unbind", "(I)V"⟩, 87), (⟨"LineKeeperModel", "comesLast", "(I)Z"⟩, 87), (⟨"LineKeeperModel", "renumber", "(I)V"⟩, 87), (⟨"LineKeeperModel", "startMachine", "(IIIIII)V"⟩, 87)]
theorem lw_r11 : ∀ q ∈ lw_privs_11, lw_okq q := List.forall_mem_cons.mpr ⟨lw_p160, List.forall_mem_cons.mpr ⟨lw_p161, List.forall_mem_cons.mpr ⟨lw_p162, List.forall_mem_cons.mpr ⟨lw_p163, List.forall_mem_cons.mpr ⟨lw_p164, List.forall_mem_cons.mpr ⟨lw_p165, List.forall_mem_cons.mpr ⟨lw_p166, List.forall_mem_cons.mpr ⟨lw_p167, List.forall_mem_cons.mpr ⟨lw_p168, List.forall_mem_cons.mpr ⟨lw_p169, List.forall_mem_cons.mpr ⟨lw_p170, List.forall_mem_cons.mpr ⟨lw_p171, List.forall_mem_cons.mpr ⟨lw_p172, List.forall_mem_cons.mpr ⟨lw_p173, List.forall_mem_cons.mpr ⟨lw_p174, List.forall_mem_cons.mpr ⟨lw_p175, fun _ h => absurd h List.not_mem_nil⟩⟩⟩⟩⟩⟩⟩⟩⟩⟩⟩⟩⟩⟩⟩⟩
theorem lw_p176 : lw_okq (⟨"LineKeeperModel", "enterCall", "(II)V"⟩, 87) := ⟨⟨by decide +kernel, by decide +kernel⟩, List.mem_of_getElem? (i := 1439) (by decide +kernel), List.mem_of_getElem? (i := 2162) (by decide +kernel), List.mem_of_getElem? (i := 2163) (by decide +kernel)⟩
theorem lw_p177 : lw_okq (⟨"LineKeeperModel", "paramAt", "(III)I"⟩, 87) := ⟨⟨by decide +kernel, by decide +kernel⟩, List.mem_of_getElem? (i := 1439) (by decide +kernel), List.mem_of_getElem? (i := 2166) (by decide +kernel), List.mem_of_getElem? (i := 2167) (by decide +kernel)⟩
theorem lw_p178 : lw_okq (⟨"LineKeeperModel", "depth", "(I)I"⟩, 87) := ⟨⟨by decide +kernel, by decide +kernel⟩, List.mem_of_getElem? (i := 1439) (by decide +kernel), List.mem_of_getElem? (i := 2174) (by decide +kernel), List.mem_of_getElem? (i := 2175) (by decide +kernel)⟩
theorem lw_p179 : lw_okq (⟨"LineKeeperModel", "step", "(I)I"⟩, 87) := ⟨⟨by decide +kernel, by decide +kernel⟩, List.mem_of_getElem? (i := 1439) (by decide +kernel), List.mem_of_getElem? (i := 2178) (by decide +kernel), List.mem_of_getElem? (i := 2179) (by decide +kernel)⟩
theorem lw_p180 : lw_okq (⟨"LineKeeperModel", "bank", "(I)I"⟩, 87) := ⟨⟨by decide +kernel, by decide +kernel⟩, List.mem_of_getElem? (i := 1439) (by decide +kernel), List.mem_of_getElem? (i := 2182) (by decide +kernel), List.mem_of_getElem? (i := 2183) (by decide +kernel)⟩
theorem lw_p181 : lw_okq (⟨"LineKeeperModel", "worth", "(III)I"⟩, 87) := ⟨⟨by decide +kernel, by decide +kernel⟩, List.mem_of_getElem? (i := 1439) (by decide +kernel), List.mem_of_getElem? (i := 2186) (by decide +kernel), List.mem_of_getElem? (i := 2187) (by decide +kernel)⟩
theorem lw_p182 : lw_okq (⟨"LineKeeperModel", "returns", "(III)I"⟩, 87) := ⟨⟨by decide +kernel, by decide +kernel⟩, List.mem_of_getElem? (i := 1439) (by decide +kernel), List.mem_of_getElem? (i := 2190) (by decide +kernel), List.mem_of_getElem? (i := 2191) (by decide +kernel)⟩
theorem lw_p183 : lw_okq (⟨"LineKeeperModel", "labelIn", "(II)I"⟩, 87) := ⟨⟨by decide +kernel, by decide +kernel⟩, List.mem_of_getElem? (i := 1439) (by decide +kernel), List.mem_of_getElem? (i := 2194) (by decide +kernel), List.mem_of_getElem? (i := 2195) (by decide +kernel)⟩
theorem lw_p184 : lw_okq (⟨"LineKeeperModel", "isStack", "(I)Z"⟩, 87) := ⟨⟨by decide +kernel, by decide +kernel⟩, List.mem_of_getElem? (i := 1439) (by decide +kernel), List.mem_of_getElem? (i := 2202) (by decide +kernel), List.mem_of_getElem? (i := 2203) (by decide +kernel)⟩
theorem lw_p185 : lw_okq (⟨"LineKeeperModel", "isFrame", "(II)Z"⟩, 87) := ⟨⟨by decide +kernel, by decide +kernel⟩, List.mem_of_getElem? (i := 1439) (by decide +kernel), List.mem_of_getElem? (i := 2206) (by decide +kernel), List.mem_of_getElem? (i := 2207) (by decide +kernel)⟩
theorem lw_p186 : lw_okq (⟨"LineKeeperModel", "routineIn", "(I)I"⟩, 87) := ⟨⟨by decide +kernel, by decide +kernel⟩, List.mem_of_getElem? (i := 1439) (by decide +kernel), List.mem_of_getElem? (i := 2210) (by decide +kernel), List.mem_of_getElem? (i := 2211) (by decide +kernel)⟩
theorem lw_p187 : lw_okq (⟨"LineKeeperModel", "stateAt", "(I)I"⟩, 87) := ⟨⟨by decide +kernel, by decide +kernel⟩, List.mem_of_getElem? (i := 1439) (by decide +kernel), List.mem_of_getElem? (i := 2218) (by decide +kernel), List.mem_of_getElem? (i := 2219) (by decide +kernel)⟩
theorem lw_p188 : lw_okq (⟨"LineKeeperModel", "stateWorth", "(I)I"⟩, 87) := ⟨⟨by decide +kernel, by decide +kernel⟩, List.mem_of_getElem? (i := 1439) (by decide +kernel), List.mem_of_getElem? (i := 2226) (by decide +kernel), List.mem_of_getElem? (i := 2227) (by decide +kernel)⟩
theorem lw_p189 : lw_okq (⟨"LineKeeperModel", "arePrintsAlike", "()Z"⟩, 87) := ⟨⟨by decide +kernel, by decide +kernel⟩, List.mem_of_getElem? (i := 1439) (by decide +kernel), List.mem_of_getElem? (i := 2242) (by decide +kernel), List.mem_of_getElem? (i := 2243) (by decide +kernel)⟩
theorem lw_p190 : lw_okq (⟨"LineKeeperModel", "areAlike", "()Z"⟩, 87) := ⟨⟨by decide +kernel, by decide +kernel⟩, List.mem_of_getElem? (i := 1439) (by decide +kernel), List.mem_of_getElem? (i := 2246) (by decide +kernel), List.mem_of_getElem? (i := 2247) (by decide +kernel)⟩
def lw_privs_12 : List (MethodName × Nat) := [(⟨"LineKeeperModel", "enterCall", "(II)V"⟩, 87), (⟨"LineKeeperModel", "paramAt", "(III)I"⟩, 87), (⟨"LineKeeperModel", "depth", "(I)I"⟩, 87), (⟨"LineKeeperModel", "step", "(I)I"⟩, 87), (⟨"LineKeeperModel", "bank", "(I)I"⟩, 87), (⟨"LineKeeperModel", "worth", "(III)I"⟩, 87), (⟨"LineKeeperModel", "returns", "(III)I"⟩, 87), (⟨"LineKeeperModel", "labelIn", "(II)I"⟩, 87), (⟨"LineKeeperModel", "isStack", "(I)Z"⟩, 87), (⟨"LineKeeperModel", "isFrame", "(II)Z"⟩, 87), (⟨"LineKeeperModel", "routineIn", "(I)I"⟩, 87), (⟨"LineKeeperModel", "stateAt", "(I)I"⟩, 87), (⟨"LineKeeperModel", "stateWorth", "(I)I"⟩, 87), (⟨"LineKeeperModel", "arePrintsAlike", "()Z"⟩, 87), (⟨"LineKeeperModel", "areAlike", "()Z"⟩, 87)]
theorem lw_r12 : ∀ q ∈ lw_privs_12, lw_okq q := List.forall_mem_cons.mpr ⟨lw_p176, List.forall_mem_cons.mpr ⟨lw_p177, List.forall_mem_cons.mpr ⟨lw_p178, List.forall_mem_cons.mpr ⟨lw_p179, List.forall_mem_cons.mpr ⟨lw_p180, List.forall_mem_cons.mpr ⟨lw_p181, List.forall_mem_cons.mpr ⟨lw_p182, List.forall_mem_cons.mpr ⟨lw_p183, List.forall_mem_cons.mpr ⟨lw_p184, List.forall_mem_cons.mpr ⟨lw_p185, List.forall_mem_cons.mpr ⟨lw_p186, List.forall_mem_cons.mpr ⟨lw_p187, List.forall_mem_cons.mpr ⟨lw_p188, List.forall_mem_cons.mpr ⟨lw_p189, List.forall_mem_cons.mpr ⟨lw_p190, fun _ h => absurd h List.not_mem_nil⟩⟩⟩⟩⟩⟩⟩⟩⟩⟩⟩⟩⟩⟩⟩
def lw_privs : List (MethodName × Nat) := lw_privs_1 ++ (lw_privs_2 ++ (lw_privs_3 ++ (lw_privs_4 ++ (lw_privs_5 ++ (lw_privs_6 ++ (lw_privs_7 ++ (lw_privs_8 ++ (lw_privs_9 ++ (lw_privs_10 ++ (lw_privs_11 ++ (lw_privs_12)))))))))))
def lw_tbl : List Cond := k2_sels lw_privs ++ tables_1
theorem lw_privs_ok : ∀ q ∈ lw_privs, lw_okq q := by
  show ∀ q ∈ lw_privs_1 ++ (lw_privs_2 ++ (lw_privs_3 ++ (lw_privs_4 ++ (lw_privs_5 ++ (lw_privs_6 ++ (lw_privs_7 ++ (lw_privs_8 ++ (lw_privs_9 ++ (lw_privs_10 ++ (lw_privs_11 ++ (lw_privs_12))))))))))), lw_okq q
  exact List.forall_mem_append.mpr ⟨lw_r1, List.forall_mem_append.mpr ⟨lw_r2, List.forall_mem_append.mpr ⟨lw_r3, List.forall_mem_append.mpr ⟨lw_r4, List.forall_mem_append.mpr ⟨lw_r5, List.forall_mem_append.mpr ⟨lw_r6, List.forall_mem_append.mpr ⟨lw_r7, List.forall_mem_append.mpr ⟨lw_r8, List.forall_mem_append.mpr ⟨lw_r9, List.forall_mem_append.mpr ⟨lw_r10, List.forall_mem_append.mpr ⟨lw_r11, lw_r12⟩⟩⟩⟩⟩⟩⟩⟩⟩⟩⟩

def RX0 : String := "LineKeeper$Beside"
def TX0 : u_T := fun k => match k with
  | 0 => ("LineKeeper$Beside", "torn", "LLineKeeper$Run;", true)
  | 1 => ("LineKeeper$Beside", "plain", "LLineKeeper$Run;", true)
  | 2 => ("LineKeeper$Beside", "knownNames", "I", false)
  | 3 => ("LineKeeper$Beside", "goneNames", "I", false)
  | _ => ("LineKeeper$Beside", "ending", "I", false)
def tyX0 : Nat → FieldType := fun k => match k with
  | 0 => .object "LineKeeper$Run"
  | 1 => .object "LineKeeper$Run"
  | 2 => .int
  | 3 => .int
  | _ => .int
theorem nmX0 : ∀ a, a < 5 → ∀ b, b < 5 → a ≠ b → (TX0 a).2.1 ≠ (TX0 b).2.1 := by decide +kernel
theorem tyX0_ok : ∀ k, k < 5 → parseFieldDescriptor (TX0 k).2.2.1 = some (tyX0 k) := by decide +kernel
abbrev cX0_init : ByteArray := prog_2_method_1_code
def yX0_init : MethodName := ⟨RX0, "<init>", "([LLineKeeper$Code;[LLineKeeper$Code;)V"⟩
abbrev cX0_together : ByteArray := prog_2_method_2_code
def yX0_together : MethodName := ⟨RX0, "together", "(LLineKeeper$Told;I)I"⟩
abbrev cX0_plainLine : ByteArray := prog_2_method_3_code
def yX0_plainLine : MethodName := ⟨RX0, "plainLine", "()Z"⟩
abbrev cX0_samePrints : ByteArray := prog_2_method_4_code
def yX0_samePrints : MethodName := ⟨RX0, "samePrints", "()Z"⟩
abbrev cX0_sameStack : ByteArray := prog_2_method_5_code
def yX0_sameStack : MethodName := ⟨RX0, "sameStack", "(LLineKeeper$Told;)Z"⟩
abbrev cX0_sameNames : ByteArray := prog_2_method_6_code
def yX0_sameNames : MethodName := ⟨RX0, "sameNames", "(LLineKeeper$Told;)Z"⟩
def RX1 : String := "LineKeeper$Code"
def TX1 : u_T := fun k => match k with
  | 0 => ("LineKeeper$Code", "cells", "[I", false)
  | 1 => ("LineKeeper$Code", "count", "I", false)
  | 2 => ("LineKeeper$Code", "names", "I", false)
  | 3 => ("LineKeeper$Code", "params", "I", false)
  | 4 => ("LineKeeper$Code", "firstLine", "I", false)
  | 5 => ("LineKeeper$Code", "frames", "I", false)
  | 6 => ("LineKeeper$Code", "frameRoutine", "[I", true)
  | 7 => ("LineKeeper$Code", "frameParent", "[I", true)
  | 8 => ("LineKeeper$Code", "frameLine", "[I", true)
  | 9 => ("LineKeeper$Code", "frameNames", "[I", true)
  | 10 => ("LineKeeper$Code", "home", "[I", true)
  | _ => ("LineKeeper$Code", "lifted", "[I", true)
def tyX1 : Nat → FieldType := fun k => match k with
  | 0 => .array .int
  | 1 => .int
  | 2 => .int
  | 3 => .int
  | 4 => .int
  | 5 => .int
  | 6 => .array .int
  | 7 => .array .int
  | 8 => .array .int
  | 9 => .array .int
  | 10 => .array .int
  | _ => .array .int
theorem nmX1 : ∀ a, a < 12 → ∀ b, b < 12 → a ≠ b → (TX1 a).2.1 ≠ (TX1 b).2.1 := by decide +kernel
theorem tyX1_ok : ∀ k, k < 12 → parseFieldDescriptor (TX1 k).2.2.1 = some (tyX1 k) := by decide +kernel
abbrev cX1_init : ByteArray := prog_3_method_1_code
def yX1_init : MethodName := ⟨RX1, "<init>", "()V"⟩
abbrev cX1_empty : ByteArray := prog_3_method_2_code
def yX1_empty : MethodName := ⟨RX1, "empty", "(I)V"⟩
abbrev cX1_get : ByteArray := prog_3_method_3_code
def yX1_get : MethodName := ⟨RX1, "get", "(II)I"⟩
abbrev cX1_set : ByteArray := prog_3_method_4_code
def yX1_set : MethodName := ⟨RX1, "set", "(III)V"⟩
abbrev cX1_kindAt : ByteArray := prog_3_method_5_code
def yX1_kindAt : MethodName := ⟨RX1, "kindAt", "(I)I"⟩
abbrev cX1_homeOf : ByteArray := prog_3_method_6_code
def yX1_homeOf : MethodName := ⟨RX1, "homeOf", "(II)I"⟩
abbrev cX1_slotOf : ByteArray := prog_3_method_7_code
def yX1_slotOf : MethodName := ⟨RX1, "slotOf", "(II)I"⟩
abbrev cX1_hasName : ByteArray := prog_3_method_8_code
def yX1_hasName : MethodName := ⟨RX1, "hasName", "(II)Z"⟩
abbrev cX1_holdRows : ByteArray := prog_3_method_9_code
def yX1_holdRows : MethodName := ⟨RX1, "holdRows", "(I)Z"⟩
abbrev cX1_append : ByteArray := prog_3_method_10_code
def yX1_append : MethodName := ⟨RX1, "append", "(III)V"⟩
abbrev cX1_lastOperand : ByteArray := prog_3_method_11_code
def yX1_lastOperand : MethodName := ⟨RX1, "lastOperand", "(III)V"⟩
abbrev cX1_openRows : ByteArray := prog_3_method_12_code
def yX1_openRows : MethodName := ⟨RX1, "openRows", "(II)Z"⟩
abbrev cX1_removeRow : ByteArray := prog_3_method_13_code
def yX1_removeRow : MethodName := ⟨RX1, "removeRow", "(I)V"⟩
abbrev cX1_liftRow : ByteArray := prog_3_method_14_code
def yX1_liftRow : MethodName := ⟨RX1, "liftRow", "(II)V"⟩
abbrev cX1_copyFrom : ByteArray := prog_3_method_15_code
def yX1_copyFrom : MethodName := ⟨RX1, "copyFrom", "(LLineKeeper$Code;)V"⟩
abbrev cX1_link : ByteArray := prog_3_method_16_code
def yX1_link : MethodName := ⟨RX1, "link", "()V"⟩
abbrev cX1_rowOfLabel : ByteArray := prog_3_method_17_code
def yX1_rowOfLabel : MethodName := ⟨RX1, "rowOfLabel", "(I)I"⟩
abbrev cX1_writtenBy : ByteArray := prog_3_method_18_code
def yX1_writtenBy : MethodName := ⟨RX1, "writtenBy", "(I)I"⟩
abbrev cX1_fallsOn : ByteArray := prog_3_method_19_code
def yX1_fallsOn : MethodName := ⟨RX1, "fallsOn", "(I)Z"⟩
abbrev cX1_targetOf : ByteArray := prog_3_method_20_code
def yX1_targetOf : MethodName := ⟨RX1, "targetOf", "(I)I"⟩
abbrev cX1_leansOn : ByteArray := prog_3_method_21_code
def yX1_leansOn : MethodName := ⟨RX1, "leansOn", "(II)Z"⟩
abbrev cX1_setWhere : ByteArray := prog_3_method_22_code
def yX1_setWhere : MethodName := ⟨RX1, "setWhere", "(III)V"⟩
abbrev cX1_sameWhere : ByteArray := prog_3_method_23_code
def yX1_sameWhere : MethodName := ⟨RX1, "sameWhere", "(II)Z"⟩
abbrev cX1_sameOperands : ByteArray := prog_3_method_24_code
def yX1_sameOperands : MethodName := ⟨RX1, "sameOperands", "(II)Z"⟩
abbrev cX1_becomeCopy : ByteArray := prog_3_method_25_code
def yX1_becomeCopy : MethodName := ⟨RX1, "becomeCopy", "(III)V"⟩
abbrev cX1_acts : ByteArray := prog_3_method_26_code
def yX1_acts : MethodName := ⟨RX1, "acts", "()I"⟩
abbrev cX1_registers : ByteArray := prog_3_method_27_code
def yX1_registers : MethodName := ⟨RX1, "registers", "()I"⟩
abbrev cX1_greatestIn : ByteArray := prog_3_method_28_code
def yX1_greatestIn : MethodName := ⟨RX1, "greatestIn", "(I)I"⟩
abbrev cX1_greatestLabel : ByteArray := prog_3_method_29_code
def yX1_greatestLabel : MethodName := ⟨RX1, "greatestLabel", "()I"⟩
abbrev cX1_isHome : ByteArray := prog_3_method_30_code
def yX1_isHome : MethodName := ⟨RX1, "isHome", "(I)Z"⟩
def RX2 : String := "LineKeeper$Dropper"
def TX2 : u_T := fun k => match k with
  | _ => ("LineKeeper$Dropper", "flow", "LLineKeeper$Flow;", true)
def tyX2 : Nat → FieldType := fun k => match k with
  | _ => .object "LineKeeper$Flow"
theorem nmX2 : ∀ a, a < 1 → ∀ b, b < 1 → a ≠ b → (TX2 a).2.1 ≠ (TX2 b).2.1 := by decide +kernel
theorem tyX2_ok : ∀ k, k < 1 → parseFieldDescriptor (TX2 k).2.2.1 = some (tyX2 k) := by decide +kernel
abbrev cX2_init : ByteArray := prog_4_method_1_code
def yX2_init : MethodName := ⟨RX2, "<init>", "(LLineKeeper$Flow;)V"⟩
abbrev cX2_drop : ByteArray := prog_4_method_2_code
def yX2_drop : MethodName := ⟨RX2, "drop", "(LLineKeeper$Code;)I"⟩
abbrev cX2_dropUnreached : ByteArray := prog_4_method_3_code
def yX2_dropUnreached : MethodName := ⟨RX2, "dropUnreached", "(LLineKeeper$Code;)I"⟩
abbrev cX2_lastUnread : ByteArray := prog_4_method_4_code
def yX2_lastUnread : MethodName := ⟨RX2, "lastUnread", "(LLineKeeper$Code;)I"⟩
abbrev cX2_loosenBinds : ByteArray := prog_4_method_5_code
def yX2_loosenBinds : MethodName := ⟨RX2, "loosenBinds", "(LLineKeeper$Code;I)V"⟩
abbrev cX2_takeOver : ByteArray := prog_4_method_6_code
def yX2_takeOver : MethodName := ⟨RX2, "takeOver", "(LLineKeeper$Code;II)V"⟩
def RX3 : String := "LineKeeper$Flow"
def TX3 : u_T := fun k => match k with
  | 0 => ("LineKeeper$Flow", "live", "[J", true)
  | 1 => ("LineKeeper$Flow", "work", "[J", true)
  | 2 => ("LineKeeper$Flow", "seen", "[I", true)
  | 3 => ("LineKeeper$Flow", "waiting", "[I", true)
  | _ => ("LineKeeper$Flow", "waits", "I", false)
def tyX3 : Nat → FieldType := fun k => match k with
  | 0 => .array .long
  | 1 => .array .long
  | 2 => .array .int
  | 3 => .array .int
  | _ => .int
theorem nmX3 : ∀ a, a < 5 → ∀ b, b < 5 → a ≠ b → (TX3 a).2.1 ≠ (TX3 b).2.1 := by decide +kernel
theorem tyX3_ok : ∀ k, k < 5 → parseFieldDescriptor (TX3 k).2.2.1 = some (tyX3 k) := by decide +kernel
abbrev cX3_init : ByteArray := prog_5_method_1_code
def yX3_init : MethodName := ⟨RX3, "<init>", "()V"⟩
abbrev cX3_lives : ByteArray := prog_5_method_2_code
def yX3_lives : MethodName := ⟨RX3, "lives", "(II)Z"⟩
abbrev cX3_findLiving : ByteArray := prog_5_method_3_code
def yX3_findLiving : MethodName := ⟨RX3, "findLiving", "(LLineKeeper$Code;)V"⟩
abbrev cX3_gatherBehind : ByteArray := prog_5_method_4_code
def yX3_gatherBehind : MethodName := ⟨RX3, "gatherBehind", "(LLineKeeper$Code;I)V"⟩
abbrev cX3_settleAhead : ByteArray := prog_5_method_5_code
def yX3_settleAhead : MethodName := ⟨RX3, "settleAhead", "(LLineKeeper$Code;I)Z"⟩
abbrev cX3_isSeen : ByteArray := prog_5_method_6_code
def yX3_isSeen : MethodName := ⟨RX3, "isSeen", "(I)Z"⟩
abbrev cX3_seeFrom : ByteArray := prog_5_method_7_code
def yX3_seeFrom : MethodName := ⟨RX3, "seeFrom", "(LLineKeeper$Code;II)V"⟩
abbrev cX3_see : ByteArray := prog_5_method_8_code
def yX3_see : MethodName := ⟨RX3, "see", "(LLineKeeper$Code;I)V"⟩
def RX4 : String := "LineKeeper$Melter"
def TX4 : u_T := fun k => match k with
  | 0 => ("LineKeeper$Melter", "flow", "LLineKeeper$Flow;", true)
  | 1 => ("LineKeeper$Melter", "arguments", "[I", true)
  | 2 => ("LineKeeper$Melter", "host", "LLineKeeper$Code;", false)
  | 3 => ("LineKeeper$Melter", "guest", "LLineKeeper$Code;", false)
  | 4 => ("LineKeeper$Melter", "registerBase", "I", false)
  | 5 => ("LineKeeper$Melter", "labelBase", "I", false)
  | 6 => ("LineKeeper$Melter", "frameBase", "I", false)
  | 7 => ("LineKeeper$Melter", "lastLabel", "I", false)
  | 8 => ("LineKeeper$Melter", "result", "I", false)
  | _ => ("LineKeeper$Melter", "row", "I", false)
def tyX4 : Nat → FieldType := fun k => match k with
  | 0 => .object "LineKeeper$Flow"
  | 1 => .array .int
  | 2 => .object "LineKeeper$Code"
  | 3 => .object "LineKeeper$Code"
  | 4 => .int
  | 5 => .int
  | 6 => .int
  | 7 => .int
  | 8 => .int
  | _ => .int
theorem nmX4 : ∀ a, a < 10 → ∀ b, b < 10 → a ≠ b → (TX4 a).2.1 ≠ (TX4 b).2.1 := by decide +kernel
theorem tyX4_ok : ∀ k, k < 10 → parseFieldDescriptor (TX4 k).2.2.1 = some (tyX4 k) := by decide +kernel
abbrev cX4_init : ByteArray := prog_6_method_1_code
def yX4_init : MethodName := ⟨RX4, "<init>", "(LLineKeeper$Flow;)V"⟩
abbrev cX4_melt : ByteArray := prog_6_method_2_code
def yX4_melt : MethodName := ⟨RX4, "melt", "([LLineKeeper$Code;IILLineKeeper$Code;)I"⟩
abbrev cX4_isSmall : ByteArray := prog_6_method_3_code
def yX4_isSmall : MethodName := ⟨RX4, "isSmall", "()Z"⟩
abbrev cX4_meltAt : ByteArray := prog_6_method_4_code
def yX4_meltAt : MethodName := ⟨RX4, "meltAt", "(I)Z"⟩
abbrev cX4_rowsNeeded : ByteArray := prog_6_method_5_code
def yX4_rowsNeeded : MethodName := ⟨RX4, "rowsNeeded", "()I"⟩
abbrev cX4_needsNought : ByteArray := prog_6_method_6_code
def yX4_needsNought : MethodName := ⟨RX4, "needsNought", "(I)Z"⟩
abbrev cX4_addFrames : ByteArray := prog_6_method_7_code
def yX4_addFrames : MethodName := ⟨RX4, "addFrames", "(I)V"⟩
abbrev cX4_addRow : ByteArray := prog_6_method_8_code
def yX4_addRow : MethodName := ⟨RX4, "addRow", "(III)V"⟩
abbrev cX4_addCopy : ByteArray := prog_6_method_9_code
def yX4_addCopy : MethodName := ⟨RX4, "addCopy", "(III)V"⟩
abbrev cX4_addEntry : ByteArray := prog_6_method_10_code
def yX4_addEntry : MethodName := ⟨RX4, "addEntry", "()V"⟩
abbrev cX4_addBody : ByteArray := prog_6_method_11_code
def yX4_addBody : MethodName := ⟨RX4, "addBody", "()V"⟩
abbrev cX4_addItem : ByteArray := prog_6_method_12_code
def yX4_addItem : MethodName := ⟨RX4, "addItem", "(I)V"⟩
abbrev cX4_shiftOf : ByteArray := prog_6_method_13_code
def yX4_shiftOf : MethodName := ⟨RX4, "shiftOf", "(I)I"⟩
def RX5 : String := "LineKeeper$Reader"
def TX5 : u_T := fun k => match k with
  | 0 => ("LineKeeper$Reader", "tokens", "LLineKeeper$Tokens;", true)
  | 1 => ("LineKeeper$Reader", "spare", "[LLineKeeper$Code;", true)
  | 2 => ("LineKeeper$Reader", "code", "LLineKeeper$Code;", false)
  | 3 => ("LineKeeper$Reader", "routineKey", "[I", true)
  | 4 => ("LineKeeper$Reader", "routineParams", "[I", true)
  | 5 => ("LineKeeper$Reader", "routines", "I", false)
  | 6 => ("LineKeeper$Reader", "callKey", "[I", true)
  | 7 => ("LineKeeper$Reader", "callPlace", "[I", true)
  | 8 => ("LineKeeper$Reader", "callCount", "[I", true)
  | 9 => ("LineKeeper$Reader", "calls", "I", false)
  | 10 => ("LineKeeper$Reader", "fault", "I", false)
  | 11 => ("LineKeeper$Reader", "place", "I", false)
  | 12 => ("LineKeeper$Reader", "statements", "I", false)
  | 13 => ("LineKeeper$Reader", "labels", "I", false)
  | 14 => ("LineKeeper$Reader", "news", "I", false)
  | 15 => ("LineKeeper$Reader", "nameKey", "[I", true)
  | 16 => ("LineKeeper$Reader", "arguments", "[I", true)
  | 17 => ("LineKeeper$Reader", "partKind", "I", false)
  | _ => ("LineKeeper$Reader", "part", "I", false)
def tyX5 : Nat → FieldType := fun k => match k with
  | 0 => .object "LineKeeper$Tokens"
  | 1 => .array (.object "LineKeeper$Code")
  | 2 => .object "LineKeeper$Code"
  | 3 => .array .int
  | 4 => .array .int
  | 5 => .int
  | 6 => .array .int
  | 7 => .array .int
  | 8 => .array .int
  | 9 => .int
  | 10 => .int
  | 11 => .int
  | 12 => .int
  | 13 => .int
  | 14 => .int
  | 15 => .array .int
  | 16 => .array .int
  | 17 => .int
  | _ => .int
theorem nmX5 : ∀ a, a < 19 → ∀ b, b < 19 → a ≠ b → (TX5 a).2.1 ≠ (TX5 b).2.1 := by decide +kernel
theorem tyX5_ok : ∀ k, k < 19 → parseFieldDescriptor (TX5 k).2.2.1 = some (tyX5 k) := by decide +kernel
abbrev cX5_init : ByteArray := prog_7_method_1_code
def yX5_init : MethodName := ⟨RX5, "<init>", "()V"⟩
abbrev cX5_exchange : ByteArray := prog_7_method_2_code
def yX5_exchange : MethodName := ⟨RX5, "exchange", "(ILLineKeeper$Code;)LLineKeeper$Code;"⟩
abbrev cX5_take : ByteArray := prog_7_method_3_code
def yX5_take : MethodName := ⟨RX5, "take", "([BI)Z"⟩
abbrev cX5_refuse : ByteArray := prog_7_method_4_code
def yX5_refuse : MethodName := ⟨RX5, "refuse", "()Z"⟩
abbrev cX5_note : ByteArray := prog_7_method_5_code
def yX5_note : MethodName := ⟨RX5, "note", "(II)V"⟩
abbrev cX5_taken : ByteArray := prog_7_method_6_code
def yX5_taken : MethodName := ⟨RX5, "taken", "(C)Z"⟩
abbrev cX5_header : ByteArray := prog_7_method_7_code
def yX5_header : MethodName := ⟨RX5, "header", "()Z"⟩
abbrev cX5_openRoutine : ByteArray := prog_7_method_8_code
def yX5_openRoutine : MethodName := ⟨RX5, "openRoutine", "(I)V"⟩
abbrev cX5_closeRoutine : ByteArray := prog_7_method_9_code
def yX5_closeRoutine : MethodName := ⟨RX5, "closeRoutine", "(I)V"⟩
abbrev cX5_numberNew : ByteArray := prog_7_method_10_code
def yX5_numberNew : MethodName := ⟨RX5, "numberNew", "(I)V"⟩
abbrev cX5_parameters : ByteArray := prog_7_method_11_code
def yX5_parameters : MethodName := ⟨RX5, "parameters", "()Z"⟩
abbrev cX5_parameter : ByteArray := prog_7_method_12_code
def yX5_parameter : MethodName := ⟨RX5, "parameter", "(I)V"⟩
abbrev cX5_nameIndex : ByteArray := prog_7_method_13_code
def yX5_nameIndex : MethodName := ⟨RX5, "nameIndex", "(I)I"⟩
abbrev cX5_register : ByteArray := prog_7_method_14_code
def yX5_register : MethodName := ⟨RX5, "register", "()I"⟩
abbrev cX5_block : ByteArray := prog_7_method_15_code
def yX5_block : MethodName := ⟨RX5, "block", "(I)Z"⟩
abbrev cX5_statement : ByteArray := prog_7_method_16_code
def yX5_statement : MethodName := ⟨RX5, "statement", "(I)Z"⟩
abbrev cX5_assignment : ByteArray := prog_7_method_17_code
def yX5_assignment : MethodName := ⟨RX5, "assignment", "()Z"⟩
abbrev cX5_setting : ByteArray := prog_7_method_18_code
def yX5_setting : MethodName := ⟨RX5, "setting", "(I)Z"⟩
abbrev cX5_call : ByteArray := prog_7_method_19_code
def yX5_call : MethodName := ⟨RX5, "call", "(I)Z"⟩
abbrev cX5_single : ByteArray := prog_7_method_20_code
def yX5_single : MethodName := ⟨RX5, "single", "(I)Z"⟩
abbrev cX5_choice : ByteArray := prog_7_method_21_code
def yX5_choice : MethodName := ⟨RX5, "choice", "(I)Z"⟩
abbrev cX5_ring : ByteArray := prog_7_method_22_code
def yX5_ring : MethodName := ⟨RX5, "ring", "(I)Z"⟩
abbrev cX5_newLabel : ByteArray := prog_7_method_23_code
def yX5_newLabel : MethodName := ⟨RX5, "newLabel", "()I"⟩
abbrev cX5_zeroToNew : ByteArray := prog_7_method_24_code
def yX5_zeroToNew : MethodName := ⟨RX5, "zeroToNew", "()I"⟩
abbrev cX5_expression : ByteArray := prog_7_method_25_code
def yX5_expression : MethodName := ⟨RX5, "expression", "(I)Z"⟩
abbrev cX5_sum : ByteArray := prog_7_method_26_code
def yX5_sum : MethodName := ⟨RX5, "sum", "(I)Z"⟩
abbrev cX5_term : ByteArray := prog_7_method_27_code
def yX5_term : MethodName := ⟨RX5, "term", "(I)Z"⟩
abbrev cX5_factor : ByteArray := prog_7_method_28_code
def yX5_factor : MethodName := ⟨RX5, "factor", "(I)Z"⟩
abbrev cX5_atom : ByteArray := prog_7_method_29_code
def yX5_atom : MethodName := ⟨RX5, "atom", "(I)Z"⟩
abbrev cX5_join : ByteArray := prog_7_method_30_code
def yX5_join : MethodName := ⟨RX5, "join", "(III)V"⟩
abbrev cX5_listCall : ByteArray := prog_7_method_31_code
def yX5_listCall : MethodName := ⟨RX5, "listCall", "(III)V"⟩
abbrev cX5_routineOf : ByteArray := prog_7_method_32_code
def yX5_routineOf : MethodName := ⟨RX5, "routineOf", "(I)I"⟩
abbrev cX5_settleCalls : ByteArray := prog_7_method_33_code
def yX5_settleCalls : MethodName := ⟨RX5, "settleCalls", "()Z"⟩
def RX6 : String := "LineKeeper$Rewriter"
def TX6 : u_T := fun k => match k with
  | 0 => ("LineKeeper$Rewriter", "knownKind", "[I", true)
  | 1 => ("LineKeeper$Rewriter", "known", "[I", true)
  | _ => ("LineKeeper$Rewriter", "written", "[J", true)
def tyX6 : Nat → FieldType := fun k => match k with
  | 0 => .array .int
  | 1 => .array .int
  | _ => .array .long
theorem nmX6 : ∀ a, a < 3 → ∀ b, b < 3 → a ≠ b → (TX6 a).2.1 ≠ (TX6 b).2.1 := by decide +kernel
theorem tyX6_ok : ∀ k, k < 3 → parseFieldDescriptor (TX6 k).2.2.1 = some (tyX6 k) := by decide +kernel
abbrev cX6_init : ByteArray := prog_8_method_1_code
def yX6_init : MethodName := ⟨RX6, "<init>", "()V"⟩
abbrev cX6_fold : ByteArray := prog_8_method_2_code
def yX6_fold : MethodName := ⟨RX6, "fold", "(LLineKeeper$Code;)I"⟩
abbrev cX6_foldBind : ByteArray := prog_8_method_3_code
def yX6_foldBind : MethodName := ⟨RX6, "foldBind", "(LLineKeeper$Code;I)V"⟩
abbrev cX6_foldOperands : ByteArray := prog_8_method_4_code
def yX6_foldOperands : MethodName := ⟨RX6, "foldOperands", "(LLineKeeper$Code;I)Z"⟩
abbrev cX6_foldAct : ByteArray := prog_8_method_5_code
def yX6_foldAct : MethodName := ⟨RX6, "foldAct", "(LLineKeeper$Code;I)Z"⟩
abbrev cX6_goesOut : ByteArray := prog_8_method_6_code
def yX6_goesOut : MethodName := ⟨RX6, "goesOut", "(LLineKeeper$Code;I)Z"⟩
abbrev cX6_learn : ByteArray := prog_8_method_7_code
def yX6_learn : MethodName := ⟨RX6, "learn", "(LLineKeeper$Code;I)V"⟩
abbrev cX6_move : ByteArray := prog_8_method_8_code
def yX6_move : MethodName := ⟨RX6, "move", "(LLineKeeper$Code;)I"⟩
abbrev cX6_emptyLoop : ByteArray := prog_8_method_9_code
def yX6_emptyLoop : MethodName := ⟨RX6, "emptyLoop", "(LLineKeeper$Code;I)I"⟩
abbrev cX6_lastJumpTo : ByteArray := prog_8_method_10_code
def yX6_lastJumpTo : MethodName := ⟨RX6, "lastJumpTo", "(LLineKeeper$Code;I)I"⟩
abbrev cX6_firstMovable : ByteArray := prog_8_method_11_code
def yX6_firstMovable : MethodName := ⟨RX6, "firstMovable", "(LLineKeeper$Code;II)I"⟩
abbrev cX6_collectWritten : ByteArray := prog_8_method_12_code
def yX6_collectWritten : MethodName := ⟨RX6, "collectWritten", "(LLineKeeper$Code;II)V"⟩
abbrev cX6_standsStill : ByteArray := prog_8_method_13_code
def yX6_standsStill : MethodName := ⟨RX6, "standsStill", "(LLineKeeper$Code;I)Z"⟩
abbrev cX6_isOnlyWriter : ByteArray := prog_8_method_14_code
def yX6_isOnlyWriter : MethodName := ⟨RX6, "isOnlyWriter", "(LLineKeeper$Code;I)Z"⟩
abbrev cX6_alike : ByteArray := prog_8_method_15_code
def yX6_alike : MethodName := ⟨RX6, "alike", "(LLineKeeper$Code;)I"⟩
abbrev cX6_latestTwin : ByteArray := prog_8_method_16_code
def yX6_latestTwin : MethodName := ⟨RX6, "latestTwin", "(LLineKeeper$Code;I)I"⟩
def RX7 : String := "LineKeeper$Run"
def TX7 : u_T := fun k => match k with
  | 0 => ("LineKeeper$Run", "codes", "[LLineKeeper$Code;", true)
  | 1 => ("LineKeeper$Run", "state", "I", false)
  | 2 => ("LineKeeper$Run", "top", "I", false)
  | 3 => ("LineKeeper$Run", "depth", "I", false)
  | 4 => ("LineKeeper$Run", "routineAt", "[I", true)
  | 5 => ("LineKeeper$Run", "placeAt", "[I", true)
  | 6 => ("LineKeeper$Run", "frameAt", "[I", true)
  | 7 => ("LineKeeper$Run", "lines", "[I", true)
  | 8 => ("LineKeeper$Run", "registers", "[I", true)
  | 9 => ("LineKeeper$Run", "out", "[I", true)
  | 10 => ("LineKeeper$Run", "prints", "I", false)
  | 11 => ("LineKeeper$Run", "lastPrint", "I", false)
  | 12 => ("LineKeeper$Run", "gone", "I", false)
  | 13 => ("LineKeeper$Run", "returned", "I", false)
  | 14 => ("LineKeeper$Run", "code", "LLineKeeper$Code;", false)
  | 15 => ("LineKeeper$Run", "foundCall", "I", false)
  | _ => ("LineKeeper$Run", "foundFrame", "I", false)
def tyX7 : Nat → FieldType := fun k => match k with
  | 0 => .array (.object "LineKeeper$Code")
  | 1 => .int
  | 2 => .int
  | 3 => .int
  | 4 => .array .int
  | 5 => .array .int
  | 6 => .array .int
  | 7 => .array .int
  | 8 => .array .int
  | 9 => .array .int
  | 10 => .int
  | 11 => .int
  | 12 => .int
  | 13 => .int
  | 14 => .object "LineKeeper$Code"
  | 15 => .int
  | _ => .int
theorem nmX7 : ∀ a, a < 17 → ∀ b, b < 17 → a ≠ b → (TX7 a).2.1 ≠ (TX7 b).2.1 := by decide +kernel
theorem tyX7_ok : ∀ k, k < 17 → parseFieldDescriptor (TX7 k).2.2.1 = some (tyX7 k) := by decide +kernel
abbrev cX7_init : ByteArray := prog_9_method_1_code
def yX7_init : MethodName := ⟨RX7, "<init>", "([LLineKeeper$Code;)V"⟩
abbrev cX7_forget : ByteArray := prog_9_method_2_code
def yX7_forget : MethodName := ⟨RX7, "forget", "()V"⟩
abbrev cX7_begin : ByteArray := prog_9_method_3_code
def yX7_begin : MethodName := ⟨RX7, "begin", "(IIIII)V"⟩
abbrev cX7_codeAt : ByteArray := prog_9_method_4_code
def yX7_codeAt : MethodName := ⟨RX7, "codeAt", "(I)LLineKeeper$Code;"⟩
abbrev cX7_openCall : ByteArray := prog_9_method_5_code
def yX7_openCall : MethodName := ⟨RX7, "openCall", "(II)V"⟩
abbrev cX7_homeOfParam : ByteArray := prog_9_method_6_code
def yX7_homeOfParam : MethodName := ⟨RX7, "homeOfParam", "(I)I"⟩
abbrev cX7_place : ByteArray := prog_9_method_7_code
def yX7_place : MethodName := ⟨RX7, "place", "()I"⟩
abbrev cX7_advance : ByteArray := prog_9_method_8_code
def yX7_advance : MethodName := ⟨RX7, "advance", "(II)I"⟩
abbrev cX7_stops : ByteArray := prog_9_method_9_code
def yX7_stops : MethodName := ⟨RX7, "stops", "(II)Z"⟩
abbrev cX7_step : ByteArray := prog_9_method_10_code
def yX7_step : MethodName := ⟨RX7, "step", "()Z"⟩
abbrev cX7_reckonAt : ByteArray := prog_9_method_11_code
def yX7_reckonAt : MethodName := ⟨RX7, "reckonAt", "(II)V"⟩
abbrev cX7_operand : ByteArray := prog_9_method_12_code
def yX7_operand : MethodName := ⟨RX7, "operand", "(II)I"⟩
abbrev cX7_emit : ByteArray := prog_9_method_13_code
def yX7_emit : MethodName := ⟨RX7, "emit", "(I)V"⟩
abbrev cX7_callFrom : ByteArray := prog_9_method_14_code
def yX7_callFrom : MethodName := ⟨RX7, "callFrom", "(I)V"⟩
abbrev cX7_giveBack : ByteArray := prog_9_method_15_code
def yX7_giveBack : MethodName := ⟨RX7, "giveBack", "(I)V"⟩
abbrev cX7_chainOf : ByteArray := prog_9_method_16_code
def yX7_chainOf : MethodName := ⟨RX7, "chainOf", "(I)I"⟩
abbrev cX7_find : ByteArray := prog_9_method_17_code
def yX7_find : MethodName := ⟨RX7, "find", "(I)Z"⟩
abbrev cX7_climb : ByteArray := prog_9_method_18_code
def yX7_climb : MethodName := ⟨RX7, "climb", "(I)V"⟩
abbrev cX7_foundSource : ByteArray := prog_9_method_19_code
def yX7_foundSource : MethodName := ⟨RX7, "foundSource", "()I"⟩
abbrev cX7_foundCode : ByteArray := prog_9_method_20_code
def yX7_foundCode : MethodName := ⟨RX7, "foundCode", "()LLineKeeper$Code;"⟩
abbrev cX7_foundRoutine : ByteArray := prog_9_method_21_code
def yX7_foundRoutine : MethodName := ⟨RX7, "foundRoutine", "()I"⟩
abbrev cX7_foundLine : ByteArray := prog_9_method_22_code
def yX7_foundLine : MethodName := ⟨RX7, "foundLine", "()I"⟩
abbrev cX7_foundNames : ByteArray := prog_9_method_23_code
def yX7_foundNames : MethodName := ⟨RX7, "foundNames", "()I"⟩
abbrev cX7_foundSlot : ByteArray := prog_9_method_24_code
def yX7_foundSlot : MethodName := ⟨RX7, "foundSlot", "(LLineKeeper$Told;)I"⟩
abbrev cX7_foundId : ByteArray := prog_9_method_25_code
def yX7_foundId : MethodName := ⟨RX7, "foundId", "(LLineKeeper$Told;I)I"⟩
abbrev cX7_foundValue : ByteArray := prog_9_method_26_code
def yX7_foundValue : MethodName := ⟨RX7, "foundValue", "(LLineKeeper$Told;I)I"⟩
abbrev cX7_foundRegister : ByteArray := prog_9_method_27_code
def yX7_foundRegister : MethodName := ⟨RX7, "foundRegister", "(I)I"⟩
def RX8 : String := "LineKeeper$Sharer"
def TX8 : u_T := fun k => match k with
  | 0 => ("LineKeeper$Sharer", "flow", "LLineKeeper$Flow;", true)
  | 1 => ("LineKeeper$Sharer", "odds", "[J", true)
  | 2 => ("LineKeeper$Sharer", "first", "[J", true)
  | 3 => ("LineKeeper$Sharer", "number", "[I", true)
  | 4 => ("LineKeeper$Sharer", "group", "[J", true)
  | 5 => ("LineKeeper$Sharer", "latest", "[J", true)
  | 6 => ("LineKeeper$Sharer", "reached", "[I", true)
  | 7 => ("LineKeeper$Sharer", "work", "[J", true)
  | _ => ("LineKeeper$Sharer", "changed", "Z", false)
def tyX8 : Nat → FieldType := fun k => match k with
  | 0 => .object "LineKeeper$Flow"
  | 1 => .array .long
  | 2 => .array .long
  | 3 => .array .int
  | 4 => .array .long
  | 5 => .array .long
  | 6 => .array .int
  | 7 => .array .long
  | _ => .boolean
theorem nmX8 : ∀ a, a < 9 → ∀ b, b < 9 → a ≠ b → (TX8 a).2.1 ≠ (TX8 b).2.1 := by decide +kernel
theorem tyX8_ok : ∀ k, k < 9 → parseFieldDescriptor (TX8 k).2.2.1 = some (tyX8 k) := by decide +kernel
abbrev cX8_init : ByteArray := prog_10_method_1_code
def yX8_init : MethodName := ⟨RX8, "<init>", "(LLineKeeper$Flow;)V"⟩
abbrev cX8_share : ByteArray := prog_10_method_2_code
def yX8_share : MethodName := ⟨RX8, "share", "(LLineKeeper$Code;)I"⟩
abbrev cX8_findFirst : ByteArray := prog_10_method_3_code
def yX8_findFirst : MethodName := ⟨RX8, "findFirst", "(LLineKeeper$Code;)V"⟩
abbrev cX8_findOdds : ByteArray := prog_10_method_4_code
def yX8_findOdds : MethodName := ⟨RX8, "findOdds", "(LLineKeeper$Code;I)V"⟩
abbrev cX8_addOdds : ByteArray := prog_10_method_5_code
def yX8_addOdds : MethodName := ⟨RX8, "addOdds", "([JIII)V"⟩
abbrev cX8_numberAnew : ByteArray := prog_10_method_6_code
def yX8_numberAnew : MethodName := ⟨RX8, "numberAnew", "(I)V"⟩
abbrev cX8_meets : ByteArray := prog_10_method_7_code
def yX8_meets : MethodName := ⟨RX8, "meets", "(II)Z"⟩
abbrev cX8_findLatest : ByteArray := prog_10_method_8_code
def yX8_findLatest : MethodName := ⟨RX8, "findLatest", "(LLineKeeper$Code;)V"⟩
abbrev cX8_goThrough : ByteArray := prog_10_method_9_code
def yX8_goThrough : MethodName := ⟨RX8, "goThrough", "(LLineKeeper$Code;I)V"⟩
abbrev cX8_comeTo : ByteArray := prog_10_method_10_code
def yX8_comeTo : MethodName := ⟨RX8, "comeTo", "(LLineKeeper$Code;I)V"⟩
abbrev cX8_leansOnLost : ByteArray := prog_10_method_11_code
def yX8_leansOnLost : MethodName := ⟨RX8, "leansOnLost", "(LLineKeeper$Code;II)Z"⟩
abbrev cX8_renumber : ByteArray := prog_10_method_12_code
def yX8_renumber : MethodName := ⟨RX8, "renumber", "(LLineKeeper$Code;)V"⟩
def RX9 : String := "LineKeeper$Tokens"
def TX9 : u_T := fun k => match k with
  | 0 => ("LineKeeper$Tokens", "kinds", "[I", true)
  | 1 => ("LineKeeper$Tokens", "numbers", "[I", true)
  | 2 => ("LineKeeper$Tokens", "places", "[I", true)
  | 3 => ("LineKeeper$Tokens", "index", "I", false)
  | 4 => ("LineKeeper$Tokens", "kind", "I", false)
  | 5 => ("LineKeeper$Tokens", "number", "I", false)
  | _ => ("LineKeeper$Tokens", "place", "I", false)
def tyX9 : Nat → FieldType := fun k => match k with
  | 0 => .array .int
  | 1 => .array .int
  | 2 => .array .int
  | 3 => .int
  | 4 => .int
  | 5 => .int
  | _ => .int
theorem nmX9 : ∀ a, a < 7 → ∀ b, b < 7 → a ≠ b → (TX9 a).2.1 ≠ (TX9 b).2.1 := by decide +kernel
theorem tyX9_ok : ∀ k, k < 7 → parseFieldDescriptor (TX9 k).2.2.1 = some (tyX9 k) := by decide +kernel
abbrev cX9_init : ByteArray := prog_11_method_1_code
def yX9_init : MethodName := ⟨RX9, "<init>", "()V"⟩
abbrev cX9_scan : ByteArray := prog_11_method_2_code
def yX9_scan : MethodName := ⟨RX9, "scan", "([BI)V"⟩
abbrev cX9_keep : ByteArray := prog_11_method_3_code
def yX9_keep : MethodName := ⟨RX9, "keep", "(I)V"⟩
abbrev cX9_scanOne : ByteArray := prog_11_method_4_code
def yX9_scanOne : MethodName := ⟨RX9, "scanOne", "([BII)I"⟩
abbrev cX9_wordKind : ByteArray := prog_11_method_5_code
def yX9_wordKind : MethodName := ⟨RX9, "wordKind", "()I"⟩
abbrev cX9_isSign : ByteArray := prog_11_method_6_code
def yX9_isSign : MethodName := ⟨RX9, "isSign", "(I)Z"⟩
abbrev cX9_next : ByteArray := prog_11_method_7_code
def yX9_next : MethodName := ⟨RX9, "next", "()V"⟩
abbrev cX9_nextIs : ByteArray := prog_11_method_8_code
def yX9_nextIs : MethodName := ⟨RX9, "nextIs", "(C)Z"⟩
def RX10 : String := "LineKeeper$Told"
def TX10 : u_T := fun k => match k with
  | 0 => ("LineKeeper$Told", "tables", "[[I", true)
  | 1 => ("LineKeeper$Told", "fresh", "[I", true)
  | 2 => ("LineKeeper$Told", "bindId", "[I", true)
  | 3 => ("LineKeeper$Told", "state", "[I", true)
  | 4 => ("LineKeeper$Told", "table", "[I", false)
  | 5 => ("LineKeeper$Told", "width", "I", false)
  | _ => ("LineKeeper$Told", "changed", "Z", false)
def tyX10 : Nat → FieldType := fun k => match k with
  | 0 => .array (.array .int)
  | 1 => .array .int
  | 2 => .array .int
  | 3 => .array .int
  | 4 => .array .int
  | 5 => .int
  | _ => .boolean
theorem nmX10 : ∀ a, a < 7 → ∀ b, b < 7 → a ≠ b → (TX10 a).2.1 ≠ (TX10 b).2.1 := by decide +kernel
theorem tyX10_ok : ∀ k, k < 7 → parseFieldDescriptor (TX10 k).2.2.1 = some (tyX10 k) := by decide +kernel
abbrev cX10_init : ByteArray := prog_12_method_1_code
def yX10_init : MethodName := ⟨RX10, "<init>", "()V"⟩
abbrev cX10_spoil : ByteArray := prog_12_method_2_code
def yX10_spoil : MethodName := ⟨RX10, "spoil", "(I)V"⟩
abbrev cX10_slotAt : ByteArray := prog_12_method_3_code
def yX10_slotAt : MethodName := ⟨RX10, "slotAt", "(LLineKeeper$Code;II)I"⟩
abbrev cX10_idIn : ByteArray := prog_12_method_4_code
def yX10_idIn : MethodName := ⟨RX10, "idIn", "(II)I"⟩
abbrev cX10_whereOf : ByteArray := prog_12_method_5_code
def yX10_whereOf : MethodName := ⟨RX10, "whereOf", "(LLineKeeper$Code;I)I"⟩
abbrev cX10_part : ByteArray := prog_12_method_6_code
def yX10_part : MethodName := ⟨RX10, "part", "(LLineKeeper$Code;II)I"⟩
abbrev cX10_refresh : ByteArray := prog_12_method_7_code
def yX10_refresh : MethodName := ⟨RX10, "refresh", "(ILLineKeeper$Code;)V"⟩
abbrev cX10_nameBind : ByteArray := prog_12_method_8_code
def yX10_nameBind : MethodName := ⟨RX10, "nameBind", "(LLineKeeper$Code;I)V"⟩
abbrev cX10_begin : ByteArray := prog_12_method_9_code
def yX10_begin : MethodName := ⟨RX10, "begin", "(LLineKeeper$Code;)V"⟩
abbrev cX10_goThrough : ByteArray := prog_12_method_10_code
def yX10_goThrough : MethodName := ⟨RX10, "goThrough", "(LLineKeeper$Code;I)V"⟩
abbrev cX10_leans : ByteArray := prog_12_method_11_code
def yX10_leans : MethodName := ⟨RX10, "leans", "(LLineKeeper$Code;II)Z"⟩
abbrev cX10_comeTo : ByteArray := prog_12_method_12_code
def yX10_comeTo : MethodName := ⟨RX10, "comeTo", "(LLineKeeper$Code;I)V"⟩
def RX11 : String := "LineKeeper"
def TX11 : u_T := fun k => match k with
  | 0 => ("LineKeeper", "tape", "[B", true)
  | 1 => ("LineKeeper", "taped", "I", false)
  | 2 => ("LineKeeper", "routines", "I", false)
  | 3 => ("LineKeeper", "made", "[LLineKeeper$Code;", true)
  | 4 => ("LineKeeper", "codes", "[LLineKeeper$Code;", true)
  | 5 => ("LineKeeper", "reader", "LLineKeeper$Reader;", true)
  | 6 => ("LineKeeper", "flow", "LLineKeeper$Flow;", true)
  | 7 => ("LineKeeper", "tellings", "LLineKeeper$Told;", true)
  | 8 => ("LineKeeper", "theRun", "LLineKeeper$Run;", true)
  | 9 => ("LineKeeper", "readFault", "I", false)
  | 10 => ("LineKeeper", "readPlace", "I", false)
  | 11 => ("LineKeeper", "rewriter", "LLineKeeper$Rewriter;", true)
  | 12 => ("LineKeeper", "dropper", "LLineKeeper$Dropper;", true)
  | 13 => ("LineKeeper", "melter", "LLineKeeper$Melter;", true)
  | 14 => ("LineKeeper", "sharer", "LLineKeeper$Sharer;", true)
  | _ => ("LineKeeper", "pair", "LLineKeeper$Beside;", false)
def tyX11 : Nat → FieldType := fun k => match k with
  | 0 => .array .byte
  | 1 => .int
  | 2 => .int
  | 3 => .array (.object "LineKeeper$Code")
  | 4 => .array (.object "LineKeeper$Code")
  | 5 => .object "LineKeeper$Reader"
  | 6 => .object "LineKeeper$Flow"
  | 7 => .object "LineKeeper$Told"
  | 8 => .object "LineKeeper$Run"
  | 9 => .int
  | 10 => .int
  | 11 => .object "LineKeeper$Rewriter"
  | 12 => .object "LineKeeper$Dropper"
  | 13 => .object "LineKeeper$Melter"
  | 14 => .object "LineKeeper$Sharer"
  | _ => .object "LineKeeper$Beside"
theorem nmX11 : ∀ a, a < 16 → ∀ b, b < 16 → a ≠ b → (TX11 a).2.1 ≠ (TX11 b).2.1 := by decide +kernel
theorem tyX11_ok : ∀ k, k < 16 → parseFieldDescriptor (TX11 k).2.2.1 = some (tyX11 k) := by decide +kernel
abbrev cX11_init : ByteArray := prog_1_method_1_code
def yX11_init : MethodName := ⟨RX11, "<init>", "()V"⟩
abbrev cX11_feed : ByteArray := prog_1_method_2_code
def yX11_feed : MethodName := ⟨RX11, "feed", "(IIIII)I"⟩
abbrev cX11_end : ByteArray := prog_1_method_3_code
def yX11_end : MethodName := ⟨RX11, "end", "(I)I"⟩
abbrev cX11_read : ByteArray := prog_1_method_4_code
def yX11_read : MethodName := ⟨RX11, "read", "()I"⟩
abbrev cX11_fault : ByteArray := prog_1_method_5_code
def yX11_fault : MethodName := ⟨RX11, "fault", "(I)I"⟩
abbrev cX11_routine : ByteArray := prog_1_method_6_code
def yX11_routine : MethodName := ⟨RX11, "routine", "(II)I"⟩
abbrev cX11_item : ByteArray := prog_1_method_7_code
def yX11_item : MethodName := ⟨RX11, "item", "(III)I"⟩
abbrev cX11_frame : ByteArray := prog_1_method_8_code
def yX11_frame : MethodName := ⟨RX11, "frame", "(III)I"⟩
abbrev cX11_told : ByteArray := prog_1_method_9_code
def yX11_told : MethodName := ⟨RX11, "told", "(IIIII)I"⟩
abbrev cX11_pass : ByteArray := prog_1_method_10_code
def yX11_pass : MethodName := ⟨RX11, "pass", "(II)I"⟩
abbrev cX11_start : ByteArray := prog_1_method_11_code
def yX11_start : MethodName := ⟨RX11, "start", "(IIIII)Z"⟩
abbrev cX11_go : ByteArray := prog_1_method_12_code
def yX11_go : MethodName := ⟨RX11, "go", "(II)I"⟩
abbrev cX11_stack : ByteArray := prog_1_method_13_code
def yX11_stack : MethodName := ⟨RX11, "stack", "(II)I"⟩
abbrev cX11_known : ByteArray := prog_1_method_14_code
def yX11_known : MethodName := ⟨RX11, "known", "(II)I"⟩
abbrev cX11_value : ByteArray := prog_1_method_15_code
def yX11_value : MethodName := ⟨RX11, "value", "(II)I"⟩
abbrev cX11_run : ByteArray := prog_1_method_16_code
def yX11_run : MethodName := ⟨RX11, "run", "(I)I"⟩
abbrev cX11_printed : ByteArray := prog_1_method_17_code
def yX11_printed : MethodName := ⟨RX11, "printed", "(I)I"⟩
abbrev cX11_beside : ByteArray := prog_1_method_18_code
def yX11_beside : MethodName := ⟨RX11, "beside", "(IIIIII)I"⟩
abbrev cX11_compared : ByteArray := prog_1_method_19_code
def yX11_compared : MethodName := ⟨RX11, "compared", "(I)I"⟩
abbrev cX11_tapeNumber : ByteArray := prog_1_method_20_code
def yX11_tapeNumber : MethodName := ⟨RX11, "tapeNumber", "(I)V"⟩
abbrev cX11_takeMade : ByteArray := prog_1_method_21_code
def yX11_takeMade : MethodName := ⟨RX11, "takeMade", "(I)V"⟩
abbrev cX11_codeOf : ByteArray := prog_1_method_22_code
def yX11_codeOf : MethodName := ⟨RX11, "codeOf", "(I)LLineKeeper$Code;"⟩
abbrev cX11_tear : ByteArray := prog_1_method_23_code
def yX11_tear : MethodName := ⟨RX11, "tear", "(IILLineKeeper$Code;)I"⟩
abbrev cX11_at : ByteArray := prog_1_method_24_code
def yX11_at : MethodName := ⟨RX11, "at", "([II)I"⟩
abbrev cX11_put : ByteArray := prog_1_method_25_code
def yX11_put : MethodName := ⟨RX11, "put", "([III)V"⟩
abbrev cX11_bitsAt : ByteArray := prog_1_method_26_code
def yX11_bitsAt : MethodName := ⟨RX11, "bitsAt", "([JI)J"⟩
abbrev cX11_putBits : ByteArray := prog_1_method_27_code
def yX11_putBits : MethodName := ⟨RX11, "putBits", "([JIJ)V"⟩
abbrev cX11_has : ByteArray := prog_1_method_28_code
def yX11_has : MethodName := ⟨RX11, "has", "([JII)Z"⟩
abbrev cX11_include : ByteArray := prog_1_method_29_code
def yX11_include : MethodName := ⟨RX11, "include", "([JII)V"⟩
abbrev cX11_exclude : ByteArray := prog_1_method_30_code
def yX11_exclude : MethodName := ⟨RX11, "exclude", "([JII)V"⟩
abbrev cX11_clear : ByteArray := prog_1_method_31_code
def yX11_clear : MethodName := ⟨RX11, "clear", "([JI)V"⟩
abbrev cX11_isFive : ByteArray := prog_1_method_32_code
def yX11_isFive : MethodName := ⟨RX11, "isFive", "(I)Z"⟩
abbrev cX11_isPure : ByteArray := prog_1_method_33_code
def yX11_isPure : MethodName := ⟨RX11, "isPure", "(I)Z"⟩
abbrev cX11_isAct : ByteArray := prog_1_method_34_code
def yX11_isAct : MethodName := ⟨RX11, "isAct", "(I)Z"⟩
abbrev cX11_reckon : ByteArray := prog_1_method_35_code
def yX11_reckon : MethodName := ⟨RX11, "reckon", "(III)I"⟩
def RX12 : String := "LineKeeperModel"
def TX12 : u_T := fun k => match k with
  | 0 => ("LineKeeperModel", "code", "I", false)
  | 1 => ("LineKeeperModel", "tape", "[B", true)
  | 2 => ("LineKeeperModel", "size", "I", false)
  | 3 => ("LineKeeperModel", "kind", "[I", true)
  | 4 => ("LineKeeperModel", "dest", "[I", true)
  | 5 => ("LineKeeperModel", "of", "[I", true)
  | 6 => ("LineKeeperModel", "where", "[I", true)
  | 7 => ("LineKeeperModel", "argKind", "[I", true)
  | 8 => ("LineKeeperModel", "arg", "[I", true)
  | 9 => ("LineKeeperModel", "items", "[I", true)
  | 10 => ("LineKeeperModel", "routines", "I", false)
  | 11 => ("LineKeeperModel", "params", "[I", true)
  | 12 => ("LineKeeperModel", "names", "[I", true)
  | 13 => ("LineKeeperModel", "firstLine", "[I", true)
  | 14 => ("LineKeeperModel", "frames", "[I", true)
  | 15 => ("LineKeeperModel", "frameOf", "[I", true)
  | 16 => ("LineKeeperModel", "frameIn", "[I", true)
  | 17 => ("LineKeeperModel", "frameLine", "[I", true)
  | 18 => ("LineKeeperModel", "nameAt", "[I", true)
  | 19 => ("LineKeeperModel", "place", "I", false)
  | 20 => ("LineKeeperModel", "next", "I", false)
  | 21 => ("LineKeeperModel", "length", "I", false)
  | 22 => ("LineKeeperModel", "sort", "I", false)
  | 23 => ("LineKeeperModel", "value", "I", false)
  | 24 => ("LineKeeperModel", "word", "J", false)
  | 25 => ("LineKeeperModel", "phase", "I", false)
  | 26 => ("LineKeeperModel", "fault", "I", false)
  | 27 => ("LineKeeperModel", "faultPlace", "I", false)
  | 28 => ("LineKeeperModel", "openE", "I", false)
  | 29 => ("LineKeeperModel", "openBlocks", "I", false)
  | 30 => ("LineKeeperModel", "routine", "I", false)
  | 31 => ("LineKeeperModel", "line", "I", false)
  | 32 => ("LineKeeperModel", "temps", "I", false)
  | 33 => ("LineKeeperModel", "labelMany", "I", false)
  | 34 => ("LineKeeperModel", "madeItems", "I", false)
  | 35 => ("LineKeeperModel", "newNames", "[I", true)
  | 36 => ("LineKeeperModel", "newParams", "[I", true)
  | 37 => ("LineKeeperModel", "newFirst", "[I", true)
  | 38 => ("LineKeeperModel", "nameWord", "[J", true)
  | 39 => ("LineKeeperModel", "gotKind", "I", false)
  | 40 => ("LineKeeperModel", "got", "I", false)
  | 41 => ("LineKeeperModel", "callKind", "[I", true)
  | 42 => ("LineKeeperModel", "callArg", "[I", true)
  | 43 => ("LineKeeperModel", "toldRoutines", "I", false)
  | 44 => ("LineKeeperModel", "toldName", "[J", true)
  | 45 => ("LineKeeperModel", "toldMany", "[I", true)
  | 46 => ("LineKeeperModel", "labelAt", "[I", true)
  | 47 => ("LineKeeperModel", "reached", "[Z", true)
  | 48 => ("LineKeeperModel", "hasStates", "[Z", true)
  | 49 => ("LineKeeperModel", "sWhere", "[I", true)
  | 50 => ("LineKeeperModel", "sKindA", "[I", true)
  | 51 => ("LineKeeperModel", "sA", "[I", true)
  | 52 => ("LineKeeperModel", "sKindB", "[I", true)
  | 53 => ("LineKeeperModel", "sB", "[I", true)
  | 54 => ("LineKeeperModel", "cWhere", "[I", true)
  | 55 => ("LineKeeperModel", "cKindA", "[I", true)
  | 56 => ("LineKeeperModel", "cA", "[I", true)
  | 57 => ("LineKeeperModel", "cKindB", "[I", true)
  | 58 => ("LineKeeperModel", "cB", "[I", true)
  | 59 => ("LineKeeperModel", "lives", "[Z", true)
  | 60 => ("LineKeeperModel", "knownKind", "[I", true)
  | 61 => ("LineKeeperModel", "known", "[I", true)
  | 62 => ("LineKeeperModel", "anew", "I", false)
  | 63 => ("LineKeeperModel", "odds", "[Z", true)
  | 64 => ("LineKeeperModel", "numbered", "[I", true)
  | 65 => ("LineKeeperModel", "last", "[I", true)
  | 66 => ("LineKeeperModel", "lastNow", "[I", true)
  | 67 => ("LineKeeperModel", "started", "Z", false)
  | 68 => ("LineKeeperModel", "isOver", "Z", false)
  | 69 => ("LineKeeperModel", "failed", "Z", false)
  | 70 => ("LineKeeperModel", "gone", "I", false)
  | 71 => ("LineKeeperModel", "returned", "I", false)
  | 72 => ("LineKeeperModel", "printedMany", "I", false)
  | 73 => ("LineKeeperModel", "mCalls", "[I", true)
  | 74 => ("LineKeeperModel", "mOver", "[I", true)
  | 75 => ("LineKeeperModel", "mReturned", "[I", true)
  | 76 => ("LineKeeperModel", "mPrinted", "[I", true)
  | 77 => ("LineKeeperModel", "mPrint", "[I", true)
  | 78 => ("LineKeeperModel", "callRoutine", "[I", true)
  | 79 => ("LineKeeperModel", "callAt", "[I", true)
  | 80 => ("LineKeeperModel", "callFrame", "[I", true)
  | 81 => ("LineKeeperModel", "frameNow", "[I", true)
  | 82 => ("LineKeeperModel", "reg", "[I", true)
  | 83 => ("LineKeeperModel", "gotCall", "I", false)
  | 84 => ("LineKeeperModel", "gotFrame", "I", false)
  | 85 => ("LineKeeperModel", "hasCompared", "Z", false)
  | _ => ("LineKeeperModel", "comparedMany", "[I", true)
def tyX12 : Nat → FieldType := fun k => match k with
  | 0 => .int
  | 1 => .array .byte
  | 2 => .int
  | 3 => .array .int
  | 4 => .array .int
  | 5 => .array .int
  | 6 => .array .int
  | 7 => .array .int
  | 8 => .array .int
  | 9 => .array .int
  | 10 => .int
  | 11 => .array .int
  | 12 => .array .int
  | 13 => .array .int
  | 14 => .array .int
  | 15 => .array .int
  | 16 => .array .int
  | 17 => .array .int
  | 18 => .array .int
  | 19 => .int
  | 20 => .int
  | 21 => .int
  | 22 => .int
  | 23 => .int
  | 24 => .long
  | 25 => .int
  | 26 => .int
  | 27 => .int
  | 28 => .int
  | 29 => .int
  | 30 => .int
  | 31 => .int
  | 32 => .int
  | 33 => .int
  | 34 => .int
  | 35 => .array .int
  | 36 => .array .int
  | 37 => .array .int
  | 38 => .array .long
  | 39 => .int
  | 40 => .int
  | 41 => .array .int
  | 42 => .array .int
  | 43 => .int
  | 44 => .array .long
  | 45 => .array .int
  | 46 => .array .int
  | 47 => .array .boolean
  | 48 => .array .boolean
  | 49 => .array .int
  | 50 => .array .int
  | 51 => .array .int
  | 52 => .array .int
  | 53 => .array .int
  | 54 => .array .int
  | 55 => .array .int
  | 56 => .array .int
  | 57 => .array .int
  | 58 => .array .int
  | 59 => .array .boolean
  | 60 => .array .int
  | 61 => .array .int
  | 62 => .int
  | 63 => .array .boolean
  | 64 => .array .int
  | 65 => .array .int
  | 66 => .array .int
  | 67 => .boolean
  | 68 => .boolean
  | 69 => .boolean
  | 70 => .int
  | 71 => .int
  | 72 => .int
  | 73 => .array .int
  | 74 => .array .int
  | 75 => .array .int
  | 76 => .array .int
  | 77 => .array .int
  | 78 => .array .int
  | 79 => .array .int
  | 80 => .array .int
  | 81 => .array .int
  | 82 => .array .int
  | 83 => .int
  | 84 => .int
  | 85 => .boolean
  | _ => .array .int
theorem nmX12 : ∀ a, a < 87 → ∀ b, b < 87 → a ≠ b → (TX12 a).2.1 ≠ (TX12 b).2.1 := by decide +kernel
theorem tyX12_ok : ∀ k, k < 87 → parseFieldDescriptor (TX12 k).2.2.1 = some (tyX12 k) := by decide +kernel
abbrev cX12_init : ByteArray := prog_14_method_1_code
def yX12_init : MethodName := ⟨RX12, "<init>", "()V"⟩
abbrev cX12_in : ByteArray := prog_14_method_3_code
def yX12_in : MethodName := ⟨RX12, "in", "(III)Z"⟩
abbrev cX12_copyItem : ByteArray := prog_14_method_4_code
def yX12_copyItem : MethodName := ⟨RX12, "copyItem", "(II)V"⟩
abbrev cX12_setItem : ByteArray := prog_14_method_5_code
def yX12_setItem : MethodName := ⟨RX12, "setItem", "(IIII)V"⟩
abbrev cX12_setArg : ByteArray := prog_14_method_6_code
def yX12_setArg : MethodName := ⟨RX12, "setArg", "(IIII)V"⟩
abbrev cX12_at : ByteArray := prog_14_method_7_code
def yX12_at : MethodName := ⟨RX12, "at", "(II)I"⟩
abbrev cX12_isAct : ByteArray := prog_14_method_8_code
def yX12_isAct : MethodName := ⟨RX12, "isAct", "(I)Z"⟩
abbrev cX12_isFive : ByteArray := prog_14_method_9_code
def yX12_isFive : MethodName := ⟨RX12, "isFive", "(I)Z"⟩
abbrev cX12_writes : ByteArray := prog_14_method_10_code
def yX12_writes : MethodName := ⟨RX12, "writes", "(I)Z"⟩
abbrev cX12_writesTo : ByteArray := prog_14_method_11_code
def yX12_writesTo : MethodName := ⟨RX12, "writesTo", "(II)Z"⟩
abbrev cX12_args : ByteArray := prog_14_method_12_code
def yX12_args : MethodName := ⟨RX12, "args", "(I)I"⟩
abbrev cX12_leansOn : ByteArray := prog_14_method_13_code
def yX12_leansOn : MethodName := ⟨RX12, "leansOn", "(II)Z"⟩
abbrev cX12_registers : ByteArray := prog_14_method_14_code
def yX12_registers : MethodName := ⟨RX12, "registers", "(I)I"⟩
abbrev cX12_labels : ByteArray := prog_14_method_15_code
def yX12_labels : MethodName := ⟨RX12, "labels", "(I)I"⟩
abbrev cX12_see : ByteArray := prog_14_method_16_code
def yX12_see : MethodName := ⟨RX12, "see", "(I)I"⟩
abbrev cX12_isLetter : ByteArray := prog_14_method_17_code
def yX12_isLetter : MethodName := ⟨RX12, "isLetter", "(I)Z"⟩
abbrev cX12_isDigit : ByteArray := prog_14_method_18_code
def yX12_isDigit : MethodName := ⟨RX12, "isDigit", "(I)Z"⟩
abbrev cX12_advance : ByteArray := prog_14_method_19_code
def yX12_advance : MethodName := ⟨RX12, "advance", "()V"⟩
abbrev cX12_isSign : ByteArray := prog_14_method_20_code
def yX12_isSign : MethodName := ⟨RX12, "isSign", "(I)Z"⟩
abbrev cX12_isWord : ByteArray := prog_14_method_21_code
def yX12_isWord : MethodName := ⟨RX12, "isWord", "(J)Z"⟩
abbrev cX12_isName : ByteArray := prog_14_method_22_code
def yX12_isName : MethodName := ⟨RX12, "isName", "()Z"⟩
abbrev cX12_wrong : ByteArray := prog_14_method_23_code
def yX12_wrong : MethodName := ⟨RX12, "wrong", "()Z"⟩
abbrev cX12_note : ByteArray := prog_14_method_24_code
def yX12_note : MethodName := ⟨RX12, "note", "(II)V"⟩
abbrev cX12_need : ByteArray := prog_14_method_25_code
def yX12_need : MethodName := ⟨RX12, "need", "(I)Z"⟩
abbrev cX12_isKept : ByteArray := prog_14_method_26_code
def yX12_isKept : MethodName := ⟨RX12, "isKept", "()Z"⟩
abbrev cX12_nameOf : ByteArray := prog_14_method_27_code
def yX12_nameOf : MethodName := ⟨RX12, "nameOf", "(JI)I"⟩
abbrev cX12_put : ByteArray := prog_14_method_28_code
def yX12_put : MethodName := ⟨RX12, "put", "(III)I"⟩
abbrev cX12_give : ByteArray := prog_14_method_29_code
def yX12_give : MethodName := ⟨RX12, "give", "(II)V"⟩
abbrev cX12_joins : ByteArray := prog_14_method_30_code
def yX12_joins : MethodName := ⟨RX12, "joins", "(IIIII)V"⟩
abbrev cX12_expression : ByteArray := prog_14_method_31_code
def yX12_expression : MethodName := ⟨RX12, "expression", "()Z"⟩
abbrev cX12_sum : ByteArray := prog_14_method_32_code
def yX12_sum : MethodName := ⟨RX12, "sum", "()Z"⟩
abbrev cX12_product : ByteArray := prog_14_method_33_code
def yX12_product : MethodName := ⟨RX12, "product", "()Z"⟩
abbrev cX12_signed : ByteArray := prog_14_method_34_code
def yX12_signed : MethodName := ⟨RX12, "signed", "()Z"⟩
abbrev cX12_block : ByteArray := prog_14_method_35_code
def yX12_block : MethodName := ⟨RX12, "block", "()Z"⟩
abbrev cX12_statement : ByteArray := prog_14_method_36_code
def yX12_statement : MethodName := ⟨RX12, "statement", "()Z"⟩
abbrev cX12_assignment : ByteArray := prog_14_method_37_code
def yX12_assignment : MethodName := ⟨RX12, "assignment", "()Z"⟩
abbrev cX12_bind : ByteArray := prog_14_method_38_code
def yX12_bind : MethodName := ⟨RX12, "bind", "(I)V"⟩
abbrev cX12_call : ByteArray := prog_14_method_39_code
def yX12_call : MethodName := ⟨RX12, "call", "(IJI)Z"⟩
abbrev cX12_ifStatement : ByteArray := prog_14_method_40_code
def yX12_ifStatement : MethodName := ⟨RX12, "ifStatement", "()Z"⟩
abbrev cX12_whileStatement : ByteArray := prog_14_method_41_code
def yX12_whileStatement : MethodName := ⟨RX12, "whileStatement", "()Z"⟩
abbrev cX12_routineBy : ByteArray := prog_14_method_42_code
def yX12_routineBy : MethodName := ⟨RX12, "routineBy", "(J)I"⟩
abbrev cX12_calledMany : ByteArray := prog_14_method_43_code
def yX12_calledMany : MethodName := ⟨RX12, "calledMany", "(I)I"⟩
abbrev cX12_oneRoutine : ByteArray := prog_14_method_44_code
def yX12_oneRoutine : MethodName := ⟨RX12, "oneRoutine", "()Z"⟩
abbrev cX12_goOver : ByteArray := prog_14_method_45_code
def yX12_goOver : MethodName := ⟨RX12, "goOver", "(I)Z"⟩
abbrev cX12_feed : ByteArray := prog_14_method_46_code
def yX12_feed : MethodName := ⟨RX12, "feed", "(IIIII)I"⟩
abbrev cX12_four : ByteArray := prog_14_method_47_code
def yX12_four : MethodName := ⟨RX12, "four", "(I)V"⟩
abbrev cX12_end : ByteArray := prog_14_method_48_code
def yX12_end : MethodName := ⟨RX12, "end", "(I)I"⟩
abbrev cX12_read : ByteArray := prog_14_method_49_code
def yX12_read : MethodName := ⟨RX12, "read", "()I"⟩
abbrev cX12_fault : ByteArray := prog_14_method_50_code
def yX12_fault : MethodName := ⟨RX12, "fault", "(I)I"⟩
abbrev cX12_isRoutine : ByteArray := prog_14_method_51_code
def yX12_isRoutine : MethodName := ⟨RX12, "isRoutine", "(I)Z"⟩
abbrev cX12_acts : ByteArray := prog_14_method_52_code
def yX12_acts : MethodName := ⟨RX12, "acts", "(I)I"⟩
abbrev cX12_routine : ByteArray := prog_14_method_53_code
def yX12_routine : MethodName := ⟨RX12, "routine", "(II)I"⟩
abbrev cX12_item : ByteArray := prog_14_method_54_code
def yX12_item : MethodName := ⟨RX12, "item", "(III)I"⟩
abbrev cX12_frame : ByteArray := prog_14_method_55_code
def yX12_frame : MethodName := ⟨RX12, "frame", "(III)I"⟩
abbrev cX12_findLabels : ByteArray := prog_14_method_56_code
def yX12_findLabels : MethodName := ⟨RX12, "findLabels", "(I)V"⟩
abbrev cX12_goesOn : ByteArray := prog_14_method_57_code
def yX12_goesOn : MethodName := ⟨RX12, "goesOn", "(III)I"⟩
abbrev cX12_findReached : ByteArray := prog_14_method_58_code
def yX12_findReached : MethodName := ⟨RX12, "findReached", "(I)V"⟩
abbrev cX12_setNow : ByteArray := prog_14_method_59_code
def yX12_setNow : MethodName := ⟨RX12, "setNow", "(IIIIII)V"⟩
abbrev cX12_behindItem : ByteArray := prog_14_method_60_code
def yX12_behindItem : MethodName := ⟨RX12, "behindItem", "(II)V"⟩
abbrev cX12_comes : ByteArray := prog_14_method_61_code
def yX12_comes : MethodName := ⟨RX12, "comes", "(II)Z"⟩
abbrev cX12_findStates : ByteArray := prog_14_method_62_code
def yX12_findStates : MethodName := ⟨RX12, "findStates", "(I)V"⟩
abbrev cX12_told : ByteArray := prog_14_method_63_code
def yX12_told : MethodName := ⟨RX12, "told", "(IIIII)I"⟩
abbrev cX12_findLives : ByteArray := prog_14_method_64_code
def yX12_findLives : MethodName := ⟨RX12, "findLives", "(I)V"⟩
abbrev cX12_livesBehind : ByteArray := prog_14_method_65_code
def yX12_livesBehind : MethodName := ⟨RX12, "livesBehind", "(III)Z"⟩
abbrev cX12_takeOut : ByteArray := prog_14_method_66_code
def yX12_takeOut : MethodName := ⟨RX12, "takeOut", "(II)V"⟩
abbrev cX12_pass : ByteArray := prog_14_method_67_code
def yX12_pass : MethodName := ⟨RX12, "pass", "(II)I"⟩
abbrev cX12_worked : ByteArray := prog_14_method_68_code
def yX12_worked : MethodName := ⟨RX12, "worked", "(III)I"⟩
abbrev cX12_fold : ByteArray := prog_14_method_69_code
def yX12_fold : MethodName := ⟨RX12, "fold", "(I)I"⟩
abbrev cX12_forgetAll : ByteArray := prog_14_method_70_code
def yX12_forgetAll : MethodName := ⟨RX12, "forgetAll", "()V"⟩
abbrev cX12_putsIn : ByteArray := prog_14_method_71_code
def yX12_putsIn : MethodName := ⟨RX12, "putsIn", "(I)Z"⟩
abbrev cX12_learn : ByteArray := prog_14_method_72_code
def yX12_learn : MethodName := ⟨RX12, "learn", "(I)V"⟩
abbrev cX12_dropAll : ByteArray := prog_14_method_73_code
def yX12_dropAll : MethodName := ⟨RX12, "dropAll", "(I)I"⟩
abbrev cX12_rebind : ByteArray := prog_14_method_74_code
def yX12_rebind : MethodName := ⟨RX12, "rebind", "(II)V"⟩
abbrev cX12_isName_ : ByteArray := prog_14_method_75_code
def yX12_isName_ : MethodName := ⟨RX12, "isName", "(II)Z"⟩
abbrev cX12_written : ByteArray := prog_14_method_76_code
def yX12_written : MethodName := ⟨RX12, "written", "(IIII)I"⟩
abbrev cX12_mayMove : ByteArray := prog_14_method_77_code
def yX12_mayMove : MethodName := ⟨RX12, "mayMove", "(IIII)Z"⟩
abbrev cX12_moveAll : ByteArray := prog_14_method_78_code
def yX12_moveAll : MethodName := ⟨RX12, "moveAll", "(I)I"⟩
abbrev cX12_isAlike : ByteArray := prog_14_method_79_code
def yX12_isAlike : MethodName := ⟨RX12, "isAlike", "(II)Z"⟩
abbrev cX12_alike : ByteArray := prog_14_method_80_code
def yX12_alike : MethodName := ⟨RX12, "alike", "(I)I"⟩
abbrev cX12_stands : ByteArray := prog_14_method_81_code
def yX12_stands : MethodName := ⟨RX12, "stands", "(III)Z"⟩
abbrev cX12_hasCall : ByteArray := prog_14_method_82_code
def yX12_hasCall : MethodName := ⟨RX12, "hasCall", "(I)Z"⟩
abbrev cX12_isParam : ByteArray := prog_14_method_83_code
def yX12_isParam : MethodName := ⟨RX12, "isParam", "(II)Z"⟩
abbrev cX12_melt : ByteArray := prog_14_method_84_code
def yX12_melt : MethodName := ⟨RX12, "melt", "(I)I"⟩
abbrev cX12_add : ByteArray := prog_14_method_85_code
def yX12_add : MethodName := ⟨RX12, "add", "(IIIII)V"⟩
abbrev cX12_meltOne : ByteArray := prog_14_method_86_code
def yX12_meltOne : MethodName := ⟨RX12, "meltOne", "(III)I"⟩
abbrev cX12_meltItem : ByteArray := prog_14_method_87_code
def yX12_meltItem : MethodName := ⟨RX12, "meltItem", "(IIIIII)V"⟩
abbrev cX12_atOdds : ByteArray := prog_14_method_88_code
def yX12_atOdds : MethodName := ⟨RX12, "atOdds", "(II)V"⟩
abbrev cX12_isAtBegin : ByteArray := prog_14_method_89_code
def yX12_isAtBegin : MethodName := ⟨RX12, "isAtBegin", "(II)Z"⟩
abbrev cX12_share : ByteArray := prog_14_method_90_code
def yX12_share : MethodName := ⟨RX12, "share", "(I)I"⟩
abbrev cX12_unbind : ByteArray := prog_14_method_91_code
def yX12_unbind : MethodName := ⟨RX12, "unbind", "(I)V"⟩
abbrev cX12_comesLast : ByteArray := prog_14_method_92_code
def yX12_comesLast : MethodName := ⟨RX12, "comesLast", "(I)Z"⟩
abbrev cX12_renumber : ByteArray := prog_14_method_93_code
def yX12_renumber : MethodName := ⟨RX12, "renumber", "(I)V"⟩
abbrev cX12_bank : ByteArray := prog_14_method_94_code
def yX12_bank : MethodName := ⟨RX12, "bank", "(I)I"⟩
abbrev cX12_enterCall : ByteArray := prog_14_method_95_code
def yX12_enterCall : MethodName := ⟨RX12, "enterCall", "(II)V"⟩
abbrev cX12_startMachine : ByteArray := prog_14_method_96_code
def yX12_startMachine : MethodName := ⟨RX12, "startMachine", "(IIIIII)V"⟩
abbrev cX12_paramAt : ByteArray := prog_14_method_97_code
def yX12_paramAt : MethodName := ⟨RX12, "paramAt", "(III)I"⟩
abbrev cX12_depth : ByteArray := prog_14_method_98_code
def yX12_depth : MethodName := ⟨RX12, "depth", "(I)I"⟩
abbrev cX12_worth : ByteArray := prog_14_method_99_code
def yX12_worth : MethodName := ⟨RX12, "worth", "(III)I"⟩
abbrev cX12_step : ByteArray := prog_14_method_100_code
def yX12_step : MethodName := ⟨RX12, "step", "(I)I"⟩
abbrev cX12_labelIn : ByteArray := prog_14_method_101_code
def yX12_labelIn : MethodName := ⟨RX12, "labelIn", "(II)I"⟩
abbrev cX12_returns : ByteArray := prog_14_method_102_code
def yX12_returns : MethodName := ⟨RX12, "returns", "(III)I"⟩
abbrev cX12_start : ByteArray := prog_14_method_103_code
def yX12_start : MethodName := ⟨RX12, "start", "(IIIII)Z"⟩
abbrev cX12_go : ByteArray := prog_14_method_104_code
def yX12_go : MethodName := ⟨RX12, "go", "(II)I"⟩
abbrev cX12_isFrame : ByteArray := prog_14_method_105_code
def yX12_isFrame : MethodName := ⟨RX12, "isFrame", "(II)Z"⟩
abbrev cX12_isStack : ByteArray := prog_14_method_106_code
def yX12_isStack : MethodName := ⟨RX12, "isStack", "(I)Z"⟩
abbrev cX12_routineIn : ByteArray := prog_14_method_107_code
def yX12_routineIn : MethodName := ⟨RX12, "routineIn", "(I)I"⟩
abbrev cX12_stack : ByteArray := prog_14_method_108_code
def yX12_stack : MethodName := ⟨RX12, "stack", "(II)I"⟩
abbrev cX12_stateAt : ByteArray := prog_14_method_109_code
def yX12_stateAt : MethodName := ⟨RX12, "stateAt", "(I)I"⟩
abbrev cX12_stateWorth : ByteArray := prog_14_method_110_code
def yX12_stateWorth : MethodName := ⟨RX12, "stateWorth", "(I)I"⟩
abbrev cX12_known : ByteArray := prog_14_method_111_code
def yX12_known : MethodName := ⟨RX12, "known", "(II)I"⟩
abbrev cX12_value : ByteArray := prog_14_method_112_code
def yX12_value : MethodName := ⟨RX12, "value", "(II)I"⟩
abbrev cX12_run : ByteArray := prog_14_method_113_code
def yX12_run : MethodName := ⟨RX12, "run", "(I)I"⟩
abbrev cX12_printed : ByteArray := prog_14_method_114_code
def yX12_printed : MethodName := ⟨RX12, "printed", "(I)I"⟩
abbrev cX12_arePrintsAlike : ByteArray := prog_14_method_115_code
def yX12_arePrintsAlike : MethodName := ⟨RX12, "arePrintsAlike", "()Z"⟩
abbrev cX12_areAlike : ByteArray := prog_14_method_116_code
def yX12_areAlike : MethodName := ⟨RX12, "areAlike", "()Z"⟩
abbrev cX12_beside : ByteArray := prog_14_method_117_code
def yX12_beside : MethodName := ⟨RX12, "beside", "(IIIIII)I"⟩
abbrev cX12_compared : ByteArray := prog_14_method_118_code
def yX12_compared : MethodName := ⟨RX12, "compared", "(I)I"⟩
def RL : String := "LineKeeperLaw"
abbrev cL_law : ByteArray := code
abbrev vwCl : List vw_C := [(RX0, TX0, 5), (RX1, TX1, 12), (RX2, TX2, 1), (RX3, TX3, 5), (RX4, TX4, 10), (RX5, TX5, 19), (RX6, TX6, 3), (RX7, TX7, 17), (RX8, TX8, 9), (RX9, TX9, 7), (RX10, TX10, 7), (RX11, TX11, 16), (RX12, TX12, 87)]
theorem df_0 : ∀ j, j < 5 → defaultValue (tyX0 j) = vp_V [.null, .null, .int 0, .int 0, .int 0] j := fun j hj => match j, hj with | 0, _ => rfl | 1, _ => rfl | 2, _ => rfl | 3, _ => rfl | 4, _ => rfl | k + 5, h => absurd h (by omega)
theorem df_1 : ∀ j, j < 12 → defaultValue (tyX1 j) = vp_V [.null, .int 0, .int 0, .int 0, .int 0, .int 0, .null, .null, .null, .null, .null, .null] j := fun j hj => match j, hj with | 0, _ => rfl | 1, _ => rfl | 2, _ => rfl | 3, _ => rfl | 4, _ => rfl | 5, _ => rfl | 6, _ => rfl | 7, _ => rfl | 8, _ => rfl | 9, _ => rfl | 10, _ => rfl | 11, _ => rfl | k + 12, h => absurd h (by omega)
theorem df_2 : ∀ j, j < 1 → defaultValue (tyX2 j) = vp_V [.null] j := fun j hj => match j, hj with | 0, _ => rfl | k + 1, h => absurd h (by omega)
theorem df_3 : ∀ j, j < 5 → defaultValue (tyX3 j) = vp_V [.null, .null, .null, .null, .int 0] j := fun j hj => match j, hj with | 0, _ => rfl | 1, _ => rfl | 2, _ => rfl | 3, _ => rfl | 4, _ => rfl | k + 5, h => absurd h (by omega)
theorem df_4 : ∀ j, j < 10 → defaultValue (tyX4 j) = vp_V [.null, .null, .null, .null, .int 0, .int 0, .int 0, .int 0, .int 0, .int 0] j := fun j hj => match j, hj with | 0, _ => rfl | 1, _ => rfl | 2, _ => rfl | 3, _ => rfl | 4, _ => rfl | 5, _ => rfl | 6, _ => rfl | 7, _ => rfl | 8, _ => rfl | 9, _ => rfl | k + 10, h => absurd h (by omega)
theorem df_5 : ∀ j, j < 19 → defaultValue (tyX5 j) = vp_V [.null, .null, .null, .null, .null, .int 0, .null, .null, .null, .int 0, .int 0, .int 0, .int 0, .int 0, .int 0, .null, .null, .int 0, .int 0] j := fun j hj => match j, hj with | 0, _ => rfl | 1, _ => rfl | 2, _ => rfl | 3, _ => rfl | 4, _ => rfl | 5, _ => rfl | 6, _ => rfl | 7, _ => rfl | 8, _ => rfl | 9, _ => rfl | 10, _ => rfl | 11, _ => rfl | 12, _ => rfl | 13, _ => rfl | 14, _ => rfl | 15, _ => rfl | 16, _ => rfl | 17, _ => rfl | 18, _ => rfl | k + 19, h => absurd h (by omega)
theorem df_6 : ∀ j, j < 3 → defaultValue (tyX6 j) = vp_V [.null, .null, .null] j := fun j hj => match j, hj with | 0, _ => rfl | 1, _ => rfl | 2, _ => rfl | k + 3, h => absurd h (by omega)
theorem df_7 : ∀ j, j < 17 → defaultValue (tyX7 j) = vp_V [.null, .int 0, .int 0, .int 0, .null, .null, .null, .null, .null, .null, .int 0, .int 0, .int 0, .int 0, .null, .int 0, .int 0] j := fun j hj => match j, hj with | 0, _ => rfl | 1, _ => rfl | 2, _ => rfl | 3, _ => rfl | 4, _ => rfl | 5, _ => rfl | 6, _ => rfl | 7, _ => rfl | 8, _ => rfl | 9, _ => rfl | 10, _ => rfl | 11, _ => rfl | 12, _ => rfl | 13, _ => rfl | 14, _ => rfl | 15, _ => rfl | 16, _ => rfl | k + 17, h => absurd h (by omega)
theorem df_8 : ∀ j, j < 9 → defaultValue (tyX8 j) = vp_V [.null, .null, .null, .null, .null, .null, .null, .null, .int 0] j := fun j hj => match j, hj with | 0, _ => rfl | 1, _ => rfl | 2, _ => rfl | 3, _ => rfl | 4, _ => rfl | 5, _ => rfl | 6, _ => rfl | 7, _ => rfl | 8, _ => rfl | k + 9, h => absurd h (by omega)
theorem df_9 : ∀ j, j < 7 → defaultValue (tyX9 j) = vp_V [.null, .null, .null, .int 0, .int 0, .int 0, .int 0] j := fun j hj => match j, hj with | 0, _ => rfl | 1, _ => rfl | 2, _ => rfl | 3, _ => rfl | 4, _ => rfl | 5, _ => rfl | 6, _ => rfl | k + 7, h => absurd h (by omega)
theorem df_10 : ∀ j, j < 7 → defaultValue (tyX10 j) = vp_V [.null, .null, .null, .null, .null, .int 0, .int 0] j := fun j hj => match j, hj with | 0, _ => rfl | 1, _ => rfl | 2, _ => rfl | 3, _ => rfl | 4, _ => rfl | 5, _ => rfl | 6, _ => rfl | k + 7, h => absurd h (by omega)
theorem df_11 : ∀ j, j < 16 → defaultValue (tyX11 j) = vp_V [.null, .int 0, .int 0, .null, .null, .null, .null, .null, .null, .int 0, .int 0, .null, .null, .null, .null, .null] j := fun j hj => match j, hj with | 0, _ => rfl | 1, _ => rfl | 2, _ => rfl | 3, _ => rfl | 4, _ => rfl | 5, _ => rfl | 6, _ => rfl | 7, _ => rfl | 8, _ => rfl | 9, _ => rfl | 10, _ => rfl | 11, _ => rfl | 12, _ => rfl | 13, _ => rfl | 14, _ => rfl | 15, _ => rfl | k + 16, h => absurd h (by omega)
theorem df_12 : ∀ j, j < 87 → defaultValue (tyX12 j) = vp_V [.int 0, .null, .int 0, .null, .null, .null, .null, .null, .null, .null, .int 0, .null, .null, .null, .null, .null, .null, .null, .null, .int 0, .int 0, .int 0, .int 0, .int 0, .long 0, .int 0, .int 0, .int 0, .int 0, .int 0, .int 0, .int 0, .int 0, .int 0, .int 0, .null, .null, .null, .null, .int 0, .int 0, .null, .null, .int 0, .null, .null, .null, .null, .null, .null, .null, .null, .null, .null, .null, .null, .null, .null, .null, .null, .null, .null, .int 0, .null, .null, .null, .null, .int 0, .int 0, .int 0, .int 0, .int 0, .int 0, .null, .null, .null, .null, .null, .null, .null, .null, .null, .null, .int 0, .int 0, .int 0, .null] j := fun j hj => match j, hj with | 0, _ => rfl | 1, _ => rfl | 2, _ => rfl | 3, _ => rfl | 4, _ => rfl | 5, _ => rfl | 6, _ => rfl | 7, _ => rfl | 8, _ => rfl | 9, _ => rfl | 10, _ => rfl | 11, _ => rfl | 12, _ => rfl | 13, _ => rfl | 14, _ => rfl | 15, _ => rfl | 16, _ => rfl | 17, _ => rfl | 18, _ => rfl | 19, _ => rfl | 20, _ => rfl | 21, _ => rfl | 22, _ => rfl | 23, _ => rfl | 24, _ => rfl | 25, _ => rfl | 26, _ => rfl | 27, _ => rfl | 28, _ => rfl | 29, _ => rfl | 30, _ => rfl | 31, _ => rfl | 32, _ => rfl | 33, _ => rfl | 34, _ => rfl | 35, _ => rfl | 36, _ => rfl | 37, _ => rfl | 38, _ => rfl | 39, _ => rfl | 40, _ => rfl | 41, _ => rfl | 42, _ => rfl | 43, _ => rfl | 44, _ => rfl | 45, _ => rfl | 46, _ => rfl | 47, _ => rfl | 48, _ => rfl | 49, _ => rfl | 50, _ => rfl | 51, _ => rfl | 52, _ => rfl | 53, _ => rfl | 54, _ => rfl | 55, _ => rfl | 56, _ => rfl | 57, _ => rfl | 58, _ => rfl | 59, _ => rfl | 60, _ => rfl | 61, _ => rfl | 62, _ => rfl | 63, _ => rfl | 64, _ => rfl | 65, _ => rfl | 66, _ => rfl | 67, _ => rfl | 68, _ => rfl | 69, _ => rfl | 70, _ => rfl | 71, _ => rfl | 72, _ => rfl | 73, _ => rfl | 74, _ => rfl | 75, _ => rfl | 76, _ => rfl | 77, _ => rfl | 78, _ => rfl | 79, _ => rfl | 80, _ => rfl | 81, _ => rfl | 82, _ => rfl | 83, _ => rfl | 84, _ => rfl | 85, _ => rfl | 86, _ => rfl | k + 87, h => absurd h (by omega)
end
