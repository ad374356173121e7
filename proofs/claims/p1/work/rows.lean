section
/-- a private method of a class that the tables say can be made, by its rows of tables_1 -/
def lw_okq (q : MethodName × Nat) : Prop := (q.1.cls ≠ "java/lang/invoke/MethodHandle" ∧ q.1.cls ≠ "java/lang/invoke/VarHandle") ∧ Cond.instantiable q.1.cls q.2 ∈ tables_1 ∧ Cond.privateMethod q.1 ∈ tables_1 ∧ Cond.instanceMethod q.1 ∈ tables_1
theorem lw_p0 : lw_okq (⟨"ExchangeHouse", "write", "(I)V"⟩, 12) := ⟨⟨by decide +kernel, by decide +kernel⟩, List.mem_of_getElem? (i := 22) (by decide +kernel), List.mem_of_getElem? (i := 72) (by decide +kernel), List.mem_of_getElem? (i := 73) (by decide +kernel)⟩
theorem lw_p1 : lw_okq (⟨"ExchangeHouse$Tokens", "learn", "(Ljava/lang/String;I)I"⟩, 12) := ⟨⟨by decide +kernel, by decide +kernel⟩, List.mem_of_getElem? (i := 80) (by decide +kernel), List.mem_of_getElem? (i := 90) (by decide +kernel), List.mem_of_getElem? (i := 91) (by decide +kernel)⟩
theorem lw_p2 : lw_okq (⟨"ExchangeHouse$Tokens", "gap", "(I)I"⟩, 12) := ⟨⟨by decide +kernel, by decide +kernel⟩, List.mem_of_getElem? (i := 80) (by decide +kernel), List.mem_of_getElem? (i := 510) (by decide +kernel), List.mem_of_getElem? (i := 511) (by decide +kernel)⟩
theorem lw_p3 : lw_okq (⟨"ExchangeHouse$Tokens", "token", "(II)I"⟩, 12) := ⟨⟨by decide +kernel, by decide +kernel⟩, List.mem_of_getElem? (i := 80) (by decide +kernel), List.mem_of_getElem? (i := 514) (by decide +kernel), List.mem_of_getElem? (i := 515) (by decide +kernel)⟩
theorem lw_p4 : lw_okq (⟨"ExchangeHouse$Tokens", "byteAt", "(I)I"⟩, 12) := ⟨⟨by decide +kernel, by decide +kernel⟩, List.mem_of_getElem? (i := 80) (by decide +kernel), List.mem_of_getElem? (i := 518) (by decide +kernel), List.mem_of_getElem? (i := 519) (by decide +kernel)⟩
theorem lw_p5 : lw_okq (⟨"ExchangeHouse$Tokens", "sign", "(II)I"⟩, 12) := ⟨⟨by decide +kernel, by decide +kernel⟩, List.mem_of_getElem? (i := 80) (by decide +kernel), List.mem_of_getElem? (i := 522) (by decide +kernel), List.mem_of_getElem? (i := 523) (by decide +kernel)⟩
theorem lw_p6 : lw_okq (⟨"ExchangeHouse$Tokens", "word", "(II)I"⟩, 12) := ⟨⟨by decide +kernel, by decide +kernel⟩, List.mem_of_getElem? (i := 80) (by decide +kernel), List.mem_of_getElem? (i := 532) (by decide +kernel), List.mem_of_getElem? (i := 533) (by decide +kernel)⟩
theorem lw_p7 : lw_okq (⟨"ExchangeHouse$Tokens", "wordKind", "(J)I"⟩, 12) := ⟨⟨by decide +kernel, by decide +kernel⟩, List.mem_of_getElem? (i := 80) (by decide +kernel), List.mem_of_getElem? (i := 536) (by decide +kernel), List.mem_of_getElem? (i := 537) (by decide +kernel)⟩
theorem lw_p8 : lw_okq (⟨"ExchangeHouse$Tokens", "digits", "(II)I"⟩, 12) := ⟨⟨by decide +kernel, by decide +kernel⟩, List.mem_of_getElem? (i := 80) (by decide +kernel), List.mem_of_getElem? (i := 540) (by decide +kernel), List.mem_of_getElem? (i := 541) (by decide +kernel)⟩
theorem lw_p9 : lw_okq (⟨"ExchangeHouse$Parser", "isOver", "(I)Z"⟩, 6) := ⟨⟨by decide +kernel, by decide +kernel⟩, List.mem_of_getElem? (i := 199) (by decide +kernel), List.mem_of_getElem? (i := 557) (by decide +kernel), List.mem_of_getElem? (i := 558) (by decide +kernel)⟩
theorem lw_p10 : lw_okq (⟨"ExchangeHouse$Parser", "fits", "(I)Z"⟩, 6) := ⟨⟨by decide +kernel, by decide +kernel⟩, List.mem_of_getElem? (i := 199) (by decide +kernel), List.mem_of_getElem? (i := 565) (by decide +kernel), List.mem_of_getElem? (i := 566) (by decide +kernel)⟩
theorem lw_p11 : lw_okq (⟨"ExchangeHouse$Parser", "signals", "()V"⟩, 6) := ⟨⟨by decide +kernel, by decide +kernel⟩, List.mem_of_getElem? (i := 199) (by decide +kernel), List.mem_of_getElem? (i := 577) (by decide +kernel), List.mem_of_getElem? (i := 578) (by decide +kernel)⟩
theorem lw_p12 : lw_okq (⟨"ExchangeHouse$Parser", "told", "(LExchangeHouse$Names;)I"⟩, 6) := ⟨⟨by decide +kernel, by decide +kernel⟩, List.mem_of_getElem? (i := 199) (by decide +kernel), List.mem_of_getElem? (i := 581) (by decide +kernel), List.mem_of_getElem? (i := 582) (by decide +kernel)⟩
theorem lw_p13 : lw_okq (⟨"ExchangeHouse$Parser", "sorts", "(I)V"⟩, 6) := ⟨⟨by decide +kernel, by decide +kernel⟩, List.mem_of_getElem? (i := 199) (by decide +kernel), List.mem_of_getElem? (i := 597) (by decide +kernel), List.mem_of_getElem? (i := 598) (by decide +kernel)⟩
theorem lw_p14 : lw_okq (⟨"ExchangeHouse$Parser", "sort", "()I"⟩, 6) := ⟨⟨by decide +kernel, by decide +kernel⟩, List.mem_of_getElem? (i := 199) (by decide +kernel), List.mem_of_getElem? (i := 601) (by decide +kernel), List.mem_of_getElem? (i := 602) (by decide +kernel)⟩
theorem lw_p15 : lw_okq (⟨"ExchangeHouse$Parser", "route", "()V"⟩, 6) := ⟨⟨by decide +kernel, by decide +kernel⟩, List.mem_of_getElem? (i := 199) (by decide +kernel), List.mem_of_getElem? (i := 611) (by decide +kernel), List.mem_of_getElem? (i := 612) (by decide +kernel)⟩
def lw_privs_1 : List (MethodName × Nat) := [(⟨"ExchangeHouse", "write", "(I)V"⟩, 12), (⟨"ExchangeHouse$Tokens", "learn", "(Ljava/lang/String;I)I"⟩, 12), (⟨"ExchangeHouse$Tokens", "gap", "(I)I"⟩, 12), (⟨"ExchangeHouse$Tokens", "token", "(II)I"⟩, 12), (⟨"ExchangeHouse$Tokens", "byteAt", "(I)I"⟩, 12), (⟨"ExchangeHouse$Tokens", "sign", "(II)I"⟩, 12), (⟨"ExchangeHouse$Tokens", "word", "(II)I"⟩, 12), (⟨"ExchangeHouse$Tokens", "wordKind", "(J)I"⟩, 12), (⟨"ExchangeHouse$Tokens", "digits", "(II)I"⟩, 12), (⟨"ExchangeHouse$Parser", "isOver", "(I)Z"⟩, 6), (⟨"ExchangeHouse$Parser", "fits", "(I)Z"⟩, 6), (⟨"ExchangeHouse$Parser", "signals", "()V"⟩, 6), (⟨"ExchangeHouse$Parser", "told", "(LExchangeHouse$Names;)I"⟩, 6), (⟨"ExchangeHouse$Parser", "sorts", "(I)V"⟩, 6), (⟨"ExchangeHouse$Parser", "sort", "()I"⟩, 6), (⟨"ExchangeHouse$Parser", "route", "()V"⟩, 6)]
theorem lw_r1 : ∀ q ∈ lw_privs_1, lw_okq q := List.forall_mem_cons.mpr ⟨lw_p0, List.forall_mem_cons.mpr ⟨lw_p1, List.forall_mem_cons.mpr ⟨lw_p2, List.forall_mem_cons.mpr ⟨lw_p3, List.forall_mem_cons.mpr ⟨lw_p4, List.forall_mem_cons.mpr ⟨lw_p5, List.forall_mem_cons.mpr ⟨lw_p6, List.forall_mem_cons.mpr ⟨lw_p7, List.forall_mem_cons.mpr ⟨lw_p8, List.forall_mem_cons.mpr ⟨lw_p9, List.forall_mem_cons.mpr ⟨lw_p10, List.forall_mem_cons.mpr ⟨lw_p11, List.forall_mem_cons.mpr ⟨lw_p12, List.forall_mem_cons.mpr ⟨lw_p13, List.forall_mem_cons.mpr ⟨lw_p14, List.forall_mem_cons.mpr ⟨lw_p15, fun _ h => absurd h List.not_mem_nil⟩⟩⟩⟩⟩⟩⟩⟩⟩⟩⟩⟩⟩⟩⟩⟩
theorem lw_p16 : lw_okq (⟨"ExchangeHouse$Parser", "side", "(I)V"⟩, 6) := ⟨⟨by decide +kernel, by decide +kernel⟩, List.mem_of_getElem? (i := 199) (by decide +kernel), List.mem_of_getElem? (i := 615) (by decide +kernel), List.mem_of_getElem? (i := 616) (by decide +kernel)⟩
theorem lw_p17 : lw_okq (⟨"ExchangeHouse$Parser", "number", "(I)I"⟩, 6) := ⟨⟨by decide +kernel, by decide +kernel⟩, List.mem_of_getElem? (i := 199) (by decide +kernel), List.mem_of_getElem? (i := 623) (by decide +kernel), List.mem_of_getElem? (i := 624) (by decide +kernel)⟩
theorem lw_p18 : lw_okq (⟨"ExchangeHouse$Parser", "secondNumber", "(I)I"⟩, 6) := ⟨⟨by decide +kernel, by decide +kernel⟩, List.mem_of_getElem? (i := 199) (by decide +kernel), List.mem_of_getElem? (i := 627) (by decide +kernel), List.mem_of_getElem? (i := 628) (by decide +kernel)⟩
theorem lw_p19 : lw_okq (⟨"ExchangeHouse$Parser", "heading", "()V"⟩, 6) := ⟨⟨by decide +kernel, by decide +kernel⟩, List.mem_of_getElem? (i := 199) (by decide +kernel), List.mem_of_getElem? (i := 635) (by decide +kernel), List.mem_of_getElem? (i := 636) (by decide +kernel)⟩
theorem lw_p20 : lw_okq (⟨"ExchangeHouse$Parser", "parameters", "()V"⟩, 6) := ⟨⟨by decide +kernel, by decide +kernel⟩, List.mem_of_getElem? (i := 199) (by decide +kernel), List.mem_of_getElem? (i := 643) (by decide +kernel), List.mem_of_getElem? (i := 644) (by decide +kernel)⟩
theorem lw_p21 : lw_okq (⟨"ExchangeHouse$Parser", "variable", "()V"⟩, 6) := ⟨⟨by decide +kernel, by decide +kernel⟩, List.mem_of_getElem? (i := 199) (by decide +kernel), List.mem_of_getElem? (i := 654) (by decide +kernel), List.mem_of_getElem? (i := 655) (by decide +kernel)⟩
theorem lw_p22 : lw_okq (⟨"ExchangeHouse$Parser", "length", "()I"⟩, 6) := ⟨⟨by decide +kernel, by decide +kernel⟩, List.mem_of_getElem? (i := 199) (by decide +kernel), List.mem_of_getElem? (i := 658) (by decide +kernel), List.mem_of_getElem? (i := 659) (by decide +kernel)⟩
theorem lw_p23 : lw_okq (⟨"ExchangeHouse$Parser", "starting", "()V"⟩, 6) := ⟨⟨by decide +kernel, by decide +kernel⟩, List.mem_of_getElem? (i := 199) (by decide +kernel), List.mem_of_getElem? (i := 663) (by decide +kernel), List.mem_of_getElem? (i := 664) (by decide +kernel)⟩
theorem lw_p24 : lw_okq (⟨"ExchangeHouse$Parser", "trans", "()I"⟩, 6) := ⟨⟨by decide +kernel, by decide +kernel⟩, List.mem_of_getElem? (i := 199) (by decide +kernel), List.mem_of_getElem? (i := 667) (by decide +kernel), List.mem_of_getElem? (i := 668) (by decide +kernel)⟩
theorem lw_p25 : lw_okq (⟨"ExchangeHouse$Parser", "part", "()Z"⟩, 6) := ⟨⟨by decide +kernel, by decide +kernel⟩, List.mem_of_getElem? (i := 199) (by decide +kernel), List.mem_of_getElem? (i := 671) (by decide +kernel), List.mem_of_getElem? (i := 672) (by decide +kernel)⟩
theorem lw_p26 : lw_okq (⟨"ExchangeHouse$Parser", "act", "()I"⟩, 6) := ⟨⟨by decide +kernel, by decide +kernel⟩, List.mem_of_getElem? (i := 199) (by decide +kernel), List.mem_of_getElem? (i := 678) (by decide +kernel), List.mem_of_getElem? (i := 679) (by decide +kernel)⟩
theorem lw_p27 : lw_okq (⟨"ExchangeHouse$Parser", "labels", "()V"⟩, 6) := ⟨⟨by decide +kernel, by decide +kernel⟩, List.mem_of_getElem? (i := 199) (by decide +kernel), List.mem_of_getElem? (i := 682) (by decide +kernel), List.mem_of_getElem? (i := 683) (by decide +kernel)⟩
theorem lw_p28 : lw_okq (⟨"ExchangeHouse$Parser", "decide", "()Z"⟩, 6) := ⟨⟨by decide +kernel, by decide +kernel⟩, List.mem_of_getElem? (i := 199) (by decide +kernel), List.mem_of_getElem? (i := 686) (by decide +kernel), List.mem_of_getElem? (i := 687) (by decide +kernel)⟩
theorem lw_p29 : lw_okq (⟨"ExchangeHouse$Parser", "expression", "(I)V"⟩, 6) := ⟨⟨by decide +kernel, by decide +kernel⟩, List.mem_of_getElem? (i := 199) (by decide +kernel), List.mem_of_getElem? (i := 690) (by decide +kernel), List.mem_of_getElem? (i := 691) (by decide +kernel)⟩
theorem lw_p30 : lw_okq (⟨"ExchangeHouse$Parser", "unary", "()V"⟩, 6) := ⟨⟨by decide +kernel, by decide +kernel⟩, List.mem_of_getElem? (i := 199) (by decide +kernel), List.mem_of_getElem? (i := 694) (by decide +kernel), List.mem_of_getElem? (i := 695) (by decide +kernel)⟩
theorem lw_p31 : lw_okq (⟨"ExchangeHouse$Parser", "operand", "(II)V"⟩, 6) := ⟨⟨by decide +kernel, by decide +kernel⟩, List.mem_of_getElem? (i := 199) (by decide +kernel), List.mem_of_getElem? (i := 698) (by decide +kernel), List.mem_of_getElem? (i := 699) (by decide +kernel)⟩
def lw_privs_2 : List (MethodName × Nat) := [(⟨"ExchangeHouse$Parser", "side", "(I)V"⟩, 6), (⟨"ExchangeHouse$Parser", "number", "(I)I"⟩, 6), (⟨"ExchangeHouse$Parser", "secondNumber", "(I)I"⟩, 6), (⟨"ExchangeHouse$Parser", "heading", "()V"⟩, 6), (⟨"ExchangeHouse$Parser", "parameters", "()V"⟩, 6), (⟨"ExchangeHouse$Parser", "variable", "()V"⟩, 6), (⟨"ExchangeHouse$Parser", "length", "()I"⟩, 6), (⟨"ExchangeHouse$Parser", "starting", "()V"⟩, 6), (⟨"ExchangeHouse$Parser", "trans", "()I"⟩, 6), (⟨"ExchangeHouse$Parser", "part", "()Z"⟩, 6), (⟨"ExchangeHouse$Parser", "act", "()I"⟩, 6), (⟨"ExchangeHouse$Parser", "labels", "()V"⟩, 6), (⟨"ExchangeHouse$Parser", "decide", "()Z"⟩, 6), (⟨"ExchangeHouse$Parser", "expression", "(I)V"⟩, 6), (⟨"ExchangeHouse$Parser", "unary", "()V"⟩, 6), (⟨"ExchangeHouse$Parser", "operand", "(II)V"⟩, 6)]
theorem lw_r2 : ∀ q ∈ lw_privs_2, lw_okq q := List.forall_mem_cons.mpr ⟨lw_p16, List.forall_mem_cons.mpr ⟨lw_p17, List.forall_mem_cons.mpr ⟨lw_p18, List.forall_mem_cons.mpr ⟨lw_p19, List.forall_mem_cons.mpr ⟨lw_p20, List.forall_mem_cons.mpr ⟨lw_p21, List.forall_mem_cons.mpr ⟨lw_p22, List.forall_mem_cons.mpr ⟨lw_p23, List.forall_mem_cons.mpr ⟨lw_p24, List.forall_mem_cons.mpr ⟨lw_p25, List.forall_mem_cons.mpr ⟨lw_p26, List.forall_mem_cons.mpr ⟨lw_p27, List.forall_mem_cons.mpr ⟨lw_p28, List.forall_mem_cons.mpr ⟨lw_p29, List.forall_mem_cons.mpr ⟨lw_p30, List.forall_mem_cons.mpr ⟨lw_p31, fun _ h => absurd h List.not_mem_nil⟩⟩⟩⟩⟩⟩⟩⟩⟩⟩⟩⟩⟩⟩⟩⟩
theorem lw_p32 : lw_okq (⟨"ExchangeHouse$Parser", "branch", "(I)Z"⟩, 6) := ⟨⟨by decide +kernel, by decide +kernel⟩, List.mem_of_getElem? (i := 199) (by decide +kernel), List.mem_of_getElem? (i := 708) (by decide +kernel), List.mem_of_getElem? (i := 709) (by decide +kernel)⟩
theorem lw_p33 : lw_okq (⟨"ExchangeHouse$Parser", "range", "()V"⟩, 6) := ⟨⟨by decide +kernel, by decide +kernel⟩, List.mem_of_getElem? (i := 199) (by decide +kernel), List.mem_of_getElem? (i := 712) (by decide +kernel), List.mem_of_getElem? (i := 713) (by decide +kernel)⟩
theorem lw_p34 : lw_okq (⟨"ExchangeHouse$Parser", "bound", "()I"⟩, 6) := ⟨⟨by decide +kernel, by decide +kernel⟩, List.mem_of_getElem? (i := 199) (by decide +kernel), List.mem_of_getElem? (i := 716) (by decide +kernel), List.mem_of_getElem? (i := 717) (by decide +kernel)⟩
theorem lw_p35 : lw_okq (⟨"ExchangeHouse$Parser", "assignment", "(I)V"⟩, 6) := ⟨⟨by decide +kernel, by decide +kernel⟩, List.mem_of_getElem? (i := 199) (by decide +kernel), List.mem_of_getElem? (i := 720) (by decide +kernel), List.mem_of_getElem? (i := 721) (by decide +kernel)⟩
theorem lw_p36 : lw_okq (⟨"ExchangeHouse$Parser", "arguments", "()I"⟩, 6) := ⟨⟨by decide +kernel, by decide +kernel⟩, List.mem_of_getElem? (i := 199) (by decide +kernel), List.mem_of_getElem? (i := 724) (by decide +kernel), List.mem_of_getElem? (i := 725) (by decide +kernel)⟩
theorem lw_p37 : lw_okq (⟨"ExchangeHouse$Parser", "direction", "(III)V"⟩, 6) := ⟨⟨by decide +kernel, by decide +kernel⟩, List.mem_of_getElem? (i := 199) (by decide +kernel), List.mem_of_getElem? (i := 731) (by decide +kernel), List.mem_of_getElem? (i := 732) (by decide +kernel)⟩
theorem lw_p38 : lw_okq (⟨"ExchangeHouse$Parser", "next", "()V"⟩, 6) := ⟨⟨by decide +kernel, by decide +kernel⟩, List.mem_of_getElem? (i := 199) (by decide +kernel), List.mem_of_getElem? (i := 735) (by decide +kernel), List.mem_of_getElem? (i := 736) (by decide +kernel)⟩
theorem lw_p39 : lw_okq (⟨"ExchangeHouse$Parser", "stating", "()V"⟩, 6) := ⟨⟨by decide +kernel, by decide +kernel⟩, List.mem_of_getElem? (i := 199) (by decide +kernel), List.mem_of_getElem? (i := 739) (by decide +kernel), List.mem_of_getElem? (i := 740) (by decide +kernel)⟩
theorem lw_p40 : lw_okq (⟨"ExchangeHouse$Parser", "stateName", "()V"⟩, 6) := ⟨⟨by decide +kernel, by decide +kernel⟩, List.mem_of_getElem? (i := 199) (by decide +kernel), List.mem_of_getElem? (i := 743) (by decide +kernel), List.mem_of_getElem? (i := 744) (by decide +kernel)⟩
theorem lw_p41 : lw_okq (⟨"ExchangeHouse$Parser", "inputs", "()V"⟩, 6) := ⟨⟨by decide +kernel, by decide +kernel⟩, List.mem_of_getElem? (i := 199) (by decide +kernel), List.mem_of_getElem? (i := 751) (by decide +kernel), List.mem_of_getElem? (i := 752) (by decide +kernel)⟩
theorem lw_p42 : lw_okq (⟨"ExchangeHouse$Parser", "in", "(I)V"⟩, 6) := ⟨⟨by decide +kernel, by decide +kernel⟩, List.mem_of_getElem? (i := 199) (by decide +kernel), List.mem_of_getElem? (i := 765) (by decide +kernel), List.mem_of_getElem? (i := 766) (by decide +kernel)⟩
theorem lw_p43 : lw_okq (⟨"ExchangeHouse$Parser", "condition", "()I"⟩, 6) := ⟨⟨by decide +kernel, by decide +kernel⟩, List.mem_of_getElem? (i := 199) (by decide +kernel), List.mem_of_getElem? (i := 769) (by decide +kernel), List.mem_of_getElem? (i := 770) (by decide +kernel)⟩
theorem lw_p44 : lw_okq (⟨"ExchangeHouse$Parser", "saves", "()V"⟩, 6) := ⟨⟨by decide +kernel, by decide +kernel⟩, List.mem_of_getElem? (i := 199) (by decide +kernel), List.mem_of_getElem? (i := 773) (by decide +kernel), List.mem_of_getElem? (i := 774) (by decide +kernel)⟩
theorem lw_p45 : lw_okq (⟨"ExchangeHouse$Parser", "whens", "()V"⟩, 6) := ⟨⟨by decide +kernel, by decide +kernel⟩, List.mem_of_getElem? (i := 199) (by decide +kernel), List.mem_of_getElem? (i := 777) (by decide +kernel), List.mem_of_getElem? (i := 778) (by decide +kernel)⟩
theorem lw_p46 : lw_okq (⟨"ExchangeHouse$Parser", "byItself", "()V"⟩, 6) := ⟨⟨by decide +kernel, by decide +kernel⟩, List.mem_of_getElem? (i := 199) (by decide +kernel), List.mem_of_getElem? (i := 781) (by decide +kernel), List.mem_of_getElem? (i := 782) (by decide +kernel)⟩
theorem lw_p47 : lw_okq (⟨"ExchangeHouse$Parser", "finish", "()V"⟩, 6) := ⟨⟨by decide +kernel, by decide +kernel⟩, List.mem_of_getElem? (i := 199) (by decide +kernel), List.mem_of_getElem? (i := 785) (by decide +kernel), List.mem_of_getElem? (i := 786) (by decide +kernel)⟩
def lw_privs_3 : List (MethodName × Nat) := [(⟨"ExchangeHouse$Parser", "branch", "(I)Z"⟩, 6), (⟨"ExchangeHouse$Parser", "range", "()V"⟩, 6), (⟨"ExchangeHouse$Parser", "bound", "()I"⟩, 6), (⟨"ExchangeHouse$Parser", "assignment", "(I)V"⟩, 6), (⟨"ExchangeHouse$Parser", "arguments", "()I"⟩, 6), (⟨"ExchangeHouse$Parser", "direction", "(III)V"⟩, 6), (⟨"ExchangeHouse$Parser", "next", "()V"⟩, 6), (⟨"ExchangeHouse$Parser", "stating", "()V"⟩, 6), (⟨"ExchangeHouse$Parser", "stateName", "()V"⟩, 6), (⟨"ExchangeHouse$Parser", "inputs", "()V"⟩, 6), (⟨"ExchangeHouse$Parser", "in", "(I)V"⟩, 6), (⟨"ExchangeHouse$Parser", "condition", "()I"⟩, 6), (⟨"ExchangeHouse$Parser", "saves", "()V"⟩, 6), (⟨"ExchangeHouse$Parser", "whens", "()V"⟩, 6), (⟨"ExchangeHouse$Parser", "byItself", "()V"⟩, 6), (⟨"ExchangeHouse$Parser", "finish", "()V"⟩, 6)]
theorem lw_r3 : ∀ q ∈ lw_privs_3, lw_okq q := List.forall_mem_cons.mpr ⟨lw_p32, List.forall_mem_cons.mpr ⟨lw_p33, List.forall_mem_cons.mpr ⟨lw_p34, List.forall_mem_cons.mpr ⟨lw_p35, List.forall_mem_cons.mpr ⟨lw_p36, List.forall_mem_cons.mpr ⟨lw_p37, List.forall_mem_cons.mpr ⟨lw_p38, List.forall_mem_cons.mpr ⟨lw_p39, List.forall_mem_cons.mpr ⟨lw_p40, List.forall_mem_cons.mpr ⟨lw_p41, List.forall_mem_cons.mpr ⟨lw_p42, List.forall_mem_cons.mpr ⟨lw_p43, List.forall_mem_cons.mpr ⟨lw_p44, List.forall_mem_cons.mpr ⟨lw_p45, List.forall_mem_cons.mpr ⟨lw_p46, List.forall_mem_cons.mpr ⟨lw_p47, fun _ h => absurd h List.not_mem_nil⟩⟩⟩⟩⟩⟩⟩⟩⟩⟩⟩⟩⟩⟩⟩⟩
theorem lw_p48 : lw_okq (⟨"ExchangeHouse$Judge", "askNamesOf", "(LExchangeHouse$Kind;)V"⟩, 10) := ⟨⟨by decide +kernel, by decide +kernel⟩, List.mem_of_getElem? (i := 344) (by decide +kernel), List.mem_of_getElem? (i := 793) (by decide +kernel), List.mem_of_getElem? (i := 794) (by decide +kernel)⟩
theorem lw_p49 : lw_okq (⟨"ExchangeHouse$Judge", "askTold", "(LExchangeHouse$Names;)V"⟩, 10) := ⟨⟨by decide +kernel, by decide +kernel⟩, List.mem_of_getElem? (i := 344) (by decide +kernel), List.mem_of_getElem? (i := 807) (by decide +kernel), List.mem_of_getElem? (i := 808) (by decide +kernel)⟩
theorem lw_p50 : lw_okq (⟨"ExchangeHouse$Judge", "askRoute", "(I)V"⟩, 10) := ⟨⟨by decide +kernel, by decide +kernel⟩, List.mem_of_getElem? (i := 344) (by decide +kernel), List.mem_of_getElem? (i := 811) (by decide +kernel), List.mem_of_getElem? (i := 812) (by decide +kernel)⟩
theorem lw_p51 : lw_okq (⟨"ExchangeHouse$Judge", "find", "(LExchangeHouse$Names;I)I"⟩, 10) := ⟨⟨by decide +kernel, by decide +kernel⟩, List.mem_of_getElem? (i := 344) (by decide +kernel), List.mem_of_getElem? (i := 815) (by decide +kernel), List.mem_of_getElem? (i := 816) (by decide +kernel)⟩
theorem lw_p52 : lw_okq (⟨"ExchangeHouse$Judge", "blame", "(II)V"⟩, 10) := ⟨⟨by decide +kernel, by decide +kernel⟩, List.mem_of_getElem? (i := 344) (by decide +kernel), List.mem_of_getElem? (i := 819) (by decide +kernel), List.mem_of_getElem? (i := 820) (by decide +kernel)⟩
theorem lw_p53 : lw_okq (⟨"ExchangeHouse$Judge", "askOperand", "(I)V"⟩, 10) := ⟨⟨by decide +kernel, by decide +kernel⟩, List.mem_of_getElem? (i := 344) (by decide +kernel), List.mem_of_getElem? (i := 823) (by decide +kernel), List.mem_of_getElem? (i := 824) (by decide +kernel)⟩
theorem lw_p54 : lw_okq (⟨"ExchangeHouse$Judge", "findVariable", "(IZ)I"⟩, 10) := ⟨⟨by decide +kernel, by decide +kernel⟩, List.mem_of_getElem? (i := 344) (by decide +kernel), List.mem_of_getElem? (i := 827) (by decide +kernel), List.mem_of_getElem? (i := 828) (by decide +kernel)⟩
theorem lw_p55 : lw_okq (⟨"ExchangeHouse$Judge", "push", "(II)V"⟩, 10) := ⟨⟨by decide +kernel, by decide +kernel⟩, List.mem_of_getElem? (i := 344) (by decide +kernel), List.mem_of_getElem? (i := 831) (by decide +kernel), List.mem_of_getElem? (i := 832) (by decide +kernel)⟩
theorem lw_p56 : lw_okq (⟨"ExchangeHouse$Judge", "askOperator", "(I)V"⟩, 10) := ⟨⟨by decide +kernel, by decide +kernel⟩, List.mem_of_getElem? (i := 344) (by decide +kernel), List.mem_of_getElem? (i := 836) (by decide +kernel), List.mem_of_getElem? (i := 837) (by decide +kernel)⟩
theorem lw_p57 : lw_okq (⟨"ExchangeHouse$Judge", "pops", "(I)Z"⟩, 10) := ⟨⟨by decide +kernel, by decide +kernel⟩, List.mem_of_getElem? (i := 344) (by decide +kernel), List.mem_of_getElem? (i := 840) (by decide +kernel), List.mem_of_getElem? (i := 841) (by decide +kernel)⟩
theorem lw_p58 : lw_okq (⟨"ExchangeHouse$Judge", "setCells", "(II)V"⟩, 10) := ⟨⟨by decide +kernel, by decide +kernel⟩, List.mem_of_getElem? (i := 344) (by decide +kernel), List.mem_of_getElem? (i := 844) (by decide +kernel), List.mem_of_getElem? (i := 845) (by decide +kernel)⟩
theorem lw_p59 : lw_okq (⟨"ExchangeHouse$Judge", "askBinary", "(I)V"⟩, 10) := ⟨⟨by decide +kernel, by decide +kernel⟩, List.mem_of_getElem? (i := 344) (by decide +kernel), List.mem_of_getElem? (i := 848) (by decide +kernel), List.mem_of_getElem? (i := 849) (by decide +kernel)⟩
theorem lw_p60 : lw_okq (⟨"ExchangeHouse$Judge", "askStimulus", "(I)V"⟩, 10) := ⟨⟨by decide +kernel, by decide +kernel⟩, List.mem_of_getElem? (i := 344) (by decide +kernel), List.mem_of_getElem? (i := 852) (by decide +kernel), List.mem_of_getElem? (i := 853) (by decide +kernel)⟩
theorem lw_p61 : lw_okq (⟨"ExchangeHouse$Judge", "askInto", "(II)V"⟩, 10) := ⟨⟨by decide +kernel, by decide +kernel⟩, List.mem_of_getElem? (i := 344) (by decide +kernel), List.mem_of_getElem? (i := 856) (by decide +kernel), List.mem_of_getElem? (i := 857) (by decide +kernel)⟩
theorem lw_p62 : lw_okq (⟨"ExchangeHouse$Judge", "enter", "(II)V"⟩, 10) := ⟨⟨by decide +kernel, by decide +kernel⟩, List.mem_of_getElem? (i := 344) (by decide +kernel), List.mem_of_getElem? (i := 860) (by decide +kernel), List.mem_of_getElem? (i := 861) (by decide +kernel)⟩
theorem lw_p63 : lw_okq (⟨"ExchangeHouse$Judge", "askAct", "(I)V"⟩, 10) := ⟨⟨by decide +kernel, by decide +kernel⟩, List.mem_of_getElem? (i := 344) (by decide +kernel), List.mem_of_getElem? (i := 871) (by decide +kernel), List.mem_of_getElem? (i := 872) (by decide +kernel)⟩
def lw_privs_4 : List (MethodName × Nat) := [(⟨"ExchangeHouse$Judge", "askNamesOf", "(LExchangeHouse$Kind;)V"⟩, 10), (⟨"ExchangeHouse$Judge", "askTold", "(LExchangeHouse$Names;)V"⟩, 10), (⟨"ExchangeHouse$Judge", "askRoute", "(I)V"⟩, 10), (⟨"ExchangeHouse$Judge", "find", "(LExchangeHouse$Names;I)I"⟩, 10), (⟨"ExchangeHouse$Judge", "blame", "(II)V"⟩, 10), (⟨"ExchangeHouse$Judge", "askOperand", "(I)V"⟩, 10), (⟨"ExchangeHouse$Judge", "findVariable", "(IZ)I"⟩, 10), (⟨"ExchangeHouse$Judge", "push", "(II)V"⟩, 10), (⟨"ExchangeHouse$Judge", "askOperator", "(I)V"⟩, 10), (⟨"ExchangeHouse$Judge", "pops", "(I)Z"⟩, 10), (⟨"ExchangeHouse$Judge", "setCells", "(II)V"⟩, 10), (⟨"ExchangeHouse$Judge", "askBinary", "(I)V"⟩, 10), (⟨"ExchangeHouse$Judge", "askStimulus", "(I)V"⟩, 10), (⟨"ExchangeHouse$Judge", "askInto", "(II)V"⟩, 10), (⟨"ExchangeHouse$Judge", "enter", "(II)V"⟩, 10), (⟨"ExchangeHouse$Judge", "askAct", "(I)V"⟩, 10)]
theorem lw_r4 : ∀ q ∈ lw_privs_4, lw_okq q := List.forall_mem_cons.mpr ⟨lw_p48, List.forall_mem_cons.mpr ⟨lw_p49, List.forall_mem_cons.mpr ⟨lw_p50, List.forall_mem_cons.mpr ⟨lw_p51, List.forall_mem_cons.mpr ⟨lw_p52, List.forall_mem_cons.mpr ⟨lw_p53, List.forall_mem_cons.mpr ⟨lw_p54, List.forall_mem_cons.mpr ⟨lw_p55, List.forall_mem_cons.mpr ⟨lw_p56, List.forall_mem_cons.mpr ⟨lw_p57, List.forall_mem_cons.mpr ⟨lw_p58, List.forall_mem_cons.mpr ⟨lw_p59, List.forall_mem_cons.mpr ⟨lw_p60, List.forall_mem_cons.mpr ⟨lw_p61, List.forall_mem_cons.mpr ⟨lw_p62, List.forall_mem_cons.mpr ⟨lw_p63, fun _ h => absurd h List.not_mem_nil⟩⟩⟩⟩⟩⟩⟩⟩⟩⟩⟩⟩⟩⟩⟩⟩
theorem lw_p64 : lw_okq (⟨"ExchangeHouse$Judge", "askOutput", "(II)V"⟩, 10) := ⟨⟨by decide +kernel, by decide +kernel⟩, List.mem_of_getElem? (i := 344) (by decide +kernel), List.mem_of_getElem? (i := 875) (by decide +kernel), List.mem_of_getElem? (i := 876) (by decide +kernel)⟩
theorem lw_p65 : lw_okq (⟨"ExchangeHouse$Judge", "askVia", "(II)V"⟩, 10) := ⟨⟨by decide +kernel, by decide +kernel⟩, List.mem_of_getElem? (i := 344) (by decide +kernel), List.mem_of_getElem? (i := 879) (by decide +kernel), List.mem_of_getElem? (i := 880) (by decide +kernel)⟩
theorem lw_p66 : lw_okq (⟨"ExchangeHouse$Judge", "askCreate", "(II)V"⟩, 10) := ⟨⟨by decide +kernel, by decide +kernel⟩, List.mem_of_getElem? (i := 344) (by decide +kernel), List.mem_of_getElem? (i := 883) (by decide +kernel), List.mem_of_getElem? (i := 884) (by decide +kernel)⟩
theorem lw_p67 : lw_okq (⟨"ExchangeHouse$Judge", "askDecide", "()V"⟩, 10) := ⟨⟨by decide +kernel, by decide +kernel⟩, List.mem_of_getElem? (i := 344) (by decide +kernel), List.mem_of_getElem? (i := 887) (by decide +kernel), List.mem_of_getElem? (i := 888) (by decide +kernel)⟩
theorem lw_p68 : lw_okq (⟨"ExchangeHouse$Judge", "askOther", "(I)V"⟩, 10) := ⟨⟨by decide +kernel, by decide +kernel⟩, List.mem_of_getElem? (i := 344) (by decide +kernel), List.mem_of_getElem? (i := 891) (by decide +kernel), List.mem_of_getElem? (i := 892) (by decide +kernel)⟩
theorem lw_p69 : lw_okq (⟨"ExchangeHouse$Judge", "askRange", "(I)V"⟩, 10) := ⟨⟨by decide +kernel, by decide +kernel⟩, List.mem_of_getElem? (i := 344) (by decide +kernel), List.mem_of_getElem? (i := 895) (by decide +kernel), List.mem_of_getElem? (i := 896) (by decide +kernel)⟩
theorem lw_p70 : lw_okq (⟨"ExchangeHouse$Judge", "warnOfAll", "(LExchangeHouse$Names;II)V"⟩, 10) := ⟨⟨by decide +kernel, by decide +kernel⟩, List.mem_of_getElem? (i := 344) (by decide +kernel), List.mem_of_getElem? (i := 911) (by decide +kernel), List.mem_of_getElem? (i := 912) (by decide +kernel)⟩
theorem lw_p71 : lw_okq (⟨"ExchangeHouse$Judge", "addWarning", "(II)V"⟩, 10) := ⟨⟨by decide +kernel, by decide +kernel⟩, List.mem_of_getElem? (i := 344) (by decide +kernel), List.mem_of_getElem? (i := 915) (by decide +kernel), List.mem_of_getElem? (i := 916) (by decide +kernel)⟩
theorem lw_p72 : lw_okq (⟨"ExchangeHouse$Judge", "warnOfType", "(LExchangeHouse$Kind;)V"⟩, 10) := ⟨⟨by decide +kernel, by decide +kernel⟩, List.mem_of_getElem? (i := 344) (by decide +kernel), List.mem_of_getElem? (i := 922) (by decide +kernel), List.mem_of_getElem? (i := 923) (by decide +kernel)⟩
theorem lw_p73 : lw_okq (⟨"ExchangeHouse$Judge", "holdsLabel", "(LExchangeHouse$Kind;II)Z"⟩, 10) := ⟨⟨by decide +kernel, by decide +kernel⟩, List.mem_of_getElem? (i := 344) (by decide +kernel), List.mem_of_getElem? (i := 926) (by decide +kernel), List.mem_of_getElem? (i := 927) (by decide +kernel)⟩
theorem lw_p74 : lw_okq (⟨"ExchangeHouse$Judge", "joinsOf", "(LExchangeHouse$Kind;)I"⟩, 10) := ⟨⟨by decide +kernel, by decide +kernel⟩, List.mem_of_getElem? (i := 344) (by decide +kernel), List.mem_of_getElem? (i := 930) (by decide +kernel), List.mem_of_getElem? (i := 931) (by decide +kernel)⟩
theorem lw_p75 : lw_okq (⟨"ExchangeHouse$Runner", "bringDue", "()V"⟩, 16) := ⟨⟨by decide +kernel, by decide +kernel⟩, List.mem_of_getElem? (i := 946) (by decide +kernel), List.mem_of_getElem? (i := 1264) (by decide +kernel), List.mem_of_getElem? (i := 1265) (by decide +kernel)⟩
theorem lw_p76 : lw_okq (⟨"ExchangeHouse$Runner", "arrive", "()V"⟩, 16) := ⟨⟨by decide +kernel, by decide +kernel⟩, List.mem_of_getElem? (i := 946) (by decide +kernel), List.mem_of_getElem? (i := 1283) (by decide +kernel), List.mem_of_getElem? (i := 1284) (by decide +kernel)⟩
theorem lw_p77 : lw_okq (⟨"ExchangeHouse$Runner", "nextReady", "()I"⟩, 16) := ⟨⟨by decide +kernel, by decide +kernel⟩, List.mem_of_getElem? (i := 946) (by decide +kernel), List.mem_of_getElem? (i := 1305) (by decide +kernel), List.mem_of_getElem? (i := 1306) (by decide +kernel)⟩
theorem lw_p78 : lw_okq (⟨"ExchangeHouse$Runner", "holds", "(II)Z"⟩, 16) := ⟨⟨by decide +kernel, by decide +kernel⟩, List.mem_of_getElem? (i := 946) (by decide +kernel), List.mem_of_getElem? (i := 1322) (by decide +kernel), List.mem_of_getElem? (i := 1323) (by decide +kernel)⟩
theorem lw_p79 : lw_okq (⟨"ExchangeHouse$Runner", "evaluate", "(II)I"⟩, 16) := ⟨⟨by decide +kernel, by decide +kernel⟩, List.mem_of_getElem? (i := 946) (by decide +kernel), List.mem_of_getElem? (i := 1326) (by decide +kernel), List.mem_of_getElem? (i := 1327) (by decide +kernel)⟩
def lw_privs_5 : List (MethodName × Nat) := [(⟨"ExchangeHouse$Judge", "askOutput", "(II)V"⟩, 10), (⟨"ExchangeHouse$Judge", "askVia", "(II)V"⟩, 10), (⟨"ExchangeHouse$Judge", "askCreate", "(II)V"⟩, 10), (⟨"ExchangeHouse$Judge", "askDecide", "()V"⟩, 10), (⟨"ExchangeHouse$Judge", "askOther", "(I)V"⟩, 10), (⟨"ExchangeHouse$Judge", "askRange", "(I)V"⟩, 10), (⟨"ExchangeHouse$Judge", "warnOfAll", "(LExchangeHouse$Names;II)V"⟩, 10), (⟨"ExchangeHouse$Judge", "addWarning", "(II)V"⟩, 10), (⟨"ExchangeHouse$Judge", "warnOfType", "(LExchangeHouse$Kind;)V"⟩, 10), (⟨"ExchangeHouse$Judge", "holdsLabel", "(LExchangeHouse$Kind;II)Z"⟩, 10), (⟨"ExchangeHouse$Judge", "joinsOf", "(LExchangeHouse$Kind;)I"⟩, 10), (⟨"ExchangeHouse$Runner", "bringDue", "()V"⟩, 16), (⟨"ExchangeHouse$Runner", "arrive", "()V"⟩, 16), (⟨"ExchangeHouse$Runner", "nextReady", "()I"⟩, 16), (⟨"ExchangeHouse$Runner", "holds", "(II)Z"⟩, 16), (⟨"ExchangeHouse$Runner", "evaluate", "(II)I"⟩, 16)]
theorem lw_r5 : ∀ q ∈ lw_privs_5, lw_okq q := List.forall_mem_cons.mpr ⟨lw_p64, List.forall_mem_cons.mpr ⟨lw_p65, List.forall_mem_cons.mpr ⟨lw_p66, List.forall_mem_cons.mpr ⟨lw_p67, List.forall_mem_cons.mpr ⟨lw_p68, List.forall_mem_cons.mpr ⟨lw_p69, List.forall_mem_cons.mpr ⟨lw_p70, List.forall_mem_cons.mpr ⟨lw_p71, List.forall_mem_cons.mpr ⟨lw_p72, List.forall_mem_cons.mpr ⟨lw_p73, List.forall_mem_cons.mpr ⟨lw_p74, List.forall_mem_cons.mpr ⟨lw_p75, List.forall_mem_cons.mpr ⟨lw_p76, List.forall_mem_cons.mpr ⟨lw_p77, List.forall_mem_cons.mpr ⟨lw_p78, List.forall_mem_cons.mpr ⟨lw_p79, fun _ h => absurd h List.not_mem_nil⟩⟩⟩⟩⟩⟩⟩⟩⟩⟩⟩⟩⟩⟩⟩⟩
theorem lw_p80 : lw_okq (⟨"ExchangeHouse$Runner", "operand", "(III)I"⟩, 16) := ⟨⟨by decide +kernel, by decide +kernel⟩, List.mem_of_getElem? (i := 946) (by decide +kernel), List.mem_of_getElem? (i := 1330) (by decide +kernel), List.mem_of_getElem? (i := 1331) (by decide +kernel)⟩
theorem lw_p81 : lw_okq (⟨"ExchangeHouse$Runner", "push", "(I)V"⟩, 16) := ⟨⟨by decide +kernel, by decide +kernel⟩, List.mem_of_getElem? (i := 946) (by decide +kernel), List.mem_of_getElem? (i := 1338) (by decide +kernel), List.mem_of_getElem? (i := 1339) (by decide +kernel)⟩
theorem lw_p82 : lw_okq (⟨"ExchangeHouse$Runner", "pop", "()I"⟩, 16) := ⟨⟨by decide +kernel, by decide +kernel⟩, List.mem_of_getElem? (i := 946) (by decide +kernel), List.mem_of_getElem? (i := 1342) (by decide +kernel), List.mem_of_getElem? (i := 1343) (by decide +kernel)⟩
theorem lw_p83 : lw_okq (⟨"ExchangeHouse$Runner", "combine", "(III)I"⟩, 16) := ⟨⟨by decide +kernel, by decide +kernel⟩, List.mem_of_getElem? (i := 946) (by decide +kernel), List.mem_of_getElem? (i := 1347) (by decide +kernel), List.mem_of_getElem? (i := 1348) (by decide +kernel)⟩
theorem lw_p84 : lw_okq (⟨"ExchangeHouse$Runner", "change", "(III)I"⟩, 16) := ⟨⟨by decide +kernel, by decide +kernel⟩, List.mem_of_getElem? (i := 946) (by decide +kernel), List.mem_of_getElem? (i := 1351) (by decide +kernel), List.mem_of_getElem? (i := 1352) (by decide +kernel)⟩
theorem lw_p85 : lw_okq (⟨"ExchangeHouse$Runner", "bound", "(II)I"⟩, 16) := ⟨⟨by decide +kernel, by decide +kernel⟩, List.mem_of_getElem? (i := 946) (by decide +kernel), List.mem_of_getElem? (i := 1355) (by decide +kernel), List.mem_of_getElem? (i := 1356) (by decide +kernel)⟩
theorem lw_p86 : lw_okq (⟨"ExchangeHouse$Runner", "isBetter", "(I)Z"⟩, 16) := ⟨⟨by decide +kernel, by decide +kernel⟩, List.mem_of_getElem? (i := 946) (by decide +kernel), List.mem_of_getElem? (i := 1363) (by decide +kernel), List.mem_of_getElem? (i := 1364) (by decide +kernel)⟩
theorem lw_p87 : lw_okq (⟨"ExchangeHouse$Runner", "takeTurn", "(I)V"⟩, 16) := ⟨⟨by decide +kernel, by decide +kernel⟩, List.mem_of_getElem? (i := 946) (by decide +kernel), List.mem_of_getElem? (i := 1367) (by decide +kernel), List.mem_of_getElem? (i := 1368) (by decide +kernel)⟩
theorem lw_p88 : lw_okq (⟨"ExchangeHouse$Net", "remove", "(II)V"⟩, 17) := ⟨⟨by decide +kernel, by decide +kernel⟩, List.mem_of_getElem? (i := 1015) (by decide +kernel), List.mem_of_getElem? (i := 1379) (by decide +kernel), List.mem_of_getElem? (i := 1380) (by decide +kernel)⟩
theorem lw_p89 : lw_okq (⟨"ExchangeHouse$Runner", "keepValues", "(I)V"⟩, 16) := ⟨⟨by decide +kernel, by decide +kernel⟩, List.mem_of_getElem? (i := 946) (by decide +kernel), List.mem_of_getElem? (i := 1383) (by decide +kernel), List.mem_of_getElem? (i := 1384) (by decide +kernel)⟩
theorem lw_p90 : lw_okq (⟨"ExchangeHouse$Runner", "perform", "(II)V"⟩, 16) := ⟨⟨by decide +kernel, by decide +kernel⟩, List.mem_of_getElem? (i := 946) (by decide +kernel), List.mem_of_getElem? (i := 1387) (by decide +kernel), List.mem_of_getElem? (i := 1388) (by decide +kernel)⟩
theorem lw_p91 : lw_okq (⟨"ExchangeHouse$Runner", "act", "(II)I"⟩, 16) := ⟨⟨by decide +kernel, by decide +kernel⟩, List.mem_of_getElem? (i := 946) (by decide +kernel), List.mem_of_getElem? (i := 1391) (by decide +kernel), List.mem_of_getElem? (i := 1392) (by decide +kernel)⟩
theorem lw_p92 : lw_okq (⟨"ExchangeHouse$Runner", "address", "(II)V"⟩, 16) := ⟨⟨by decide +kernel, by decide +kernel⟩, List.mem_of_getElem? (i := 946) (by decide +kernel), List.mem_of_getElem? (i := 1395) (by decide +kernel), List.mem_of_getElem? (i := 1396) (by decide +kernel)⟩
theorem lw_p93 : lw_okq (⟨"ExchangeHouse$Runner", "fill", "(IIII)V"⟩, 16) := ⟨⟨by decide +kernel, by decide +kernel⟩, List.mem_of_getElem? (i := 946) (by decide +kernel), List.mem_of_getElem? (i := 1407) (by decide +kernel), List.mem_of_getElem? (i := 1408) (by decide +kernel)⟩
theorem lw_p94 : lw_okq (⟨"ExchangeHouse$Runner", "create", "(III)V"⟩, 16) := ⟨⟨by decide +kernel, by decide +kernel⟩, List.mem_of_getElem? (i := 946) (by decide +kernel), List.mem_of_getElem? (i := 1422) (by decide +kernel), List.mem_of_getElem? (i := 1423) (by decide +kernel)⟩
theorem lw_p95 : lw_okq (⟨"ExchangeHouse$Runner", "halt", "(I)V"⟩, 16) := ⟨⟨by decide +kernel, by decide +kernel⟩, List.mem_of_getElem? (i := 946) (by decide +kernel), List.mem_of_getElem? (i := 1430) (by decide +kernel), List.mem_of_getElem? (i := 1431) (by decide +kernel)⟩
def lw_privs_6 : List (MethodName × Nat) := [(⟨"ExchangeHouse$Runner", "operand", "(III)I"⟩, 16), (⟨"ExchangeHouse$Runner", "push", "(I)V"⟩, 16), (⟨"ExchangeHouse$Runner", "pop", "()I"⟩, 16), (⟨"ExchangeHouse$Runner", "combine", "(III)I"⟩, 16), (⟨"ExchangeHouse$Runner", "change", "(III)I"⟩, 16), (⟨"ExchangeHouse$Runner", "bound", "(II)I"⟩, 16), (⟨"ExchangeHouse$Runner", "isBetter", "(I)Z"⟩, 16), (⟨"ExchangeHouse$Runner", "takeTurn", "(I)V"⟩, 16), (⟨"ExchangeHouse$Net", "remove", "(II)V"⟩, 17), (⟨"ExchangeHouse$Runner", "keepValues", "(I)V"⟩, 16), (⟨"ExchangeHouse$Runner", "perform", "(II)V"⟩, 16), (⟨"ExchangeHouse$Runner", "act", "(II)I"⟩, 16), (⟨"ExchangeHouse$Runner", "address", "(II)V"⟩, 16), (⟨"ExchangeHouse$Runner", "fill", "(IIII)V"⟩, 16), (⟨"ExchangeHouse$Runner", "create", "(III)V"⟩, 16), (⟨"ExchangeHouse$Runner", "halt", "(I)V"⟩, 16)]
theorem lw_r6 : ∀ q ∈ lw_privs_6, lw_okq q := List.forall_mem_cons.mpr ⟨lw_p80, List.forall_mem_cons.mpr ⟨lw_p81, List.forall_mem_cons.mpr ⟨lw_p82, List.forall_mem_cons.mpr ⟨lw_p83, List.forall_mem_cons.mpr ⟨lw_p84, List.forall_mem_cons.mpr ⟨lw_p85, List.forall_mem_cons.mpr ⟨lw_p86, List.forall_mem_cons.mpr ⟨lw_p87, List.forall_mem_cons.mpr ⟨lw_p88, List.forall_mem_cons.mpr ⟨lw_p89, List.forall_mem_cons.mpr ⟨lw_p90, List.forall_mem_cons.mpr ⟨lw_p91, List.forall_mem_cons.mpr ⟨lw_p92, List.forall_mem_cons.mpr ⟨lw_p93, List.forall_mem_cons.mpr ⟨lw_p94, List.forall_mem_cons.mpr ⟨lw_p95, fun _ h => absurd h List.not_mem_nil⟩⟩⟩⟩⟩⟩⟩⟩⟩⟩⟩⟩⟩⟩⟩⟩
theorem lw_p96 : lw_okq (⟨"ExchangeHouse$Runner", "send", "(I)V"⟩, 16) := ⟨⟨by decide +kernel, by decide +kernel⟩, List.mem_of_getElem? (i := 946) (by decide +kernel), List.mem_of_getElem? (i := 1438) (by decide +kernel), List.mem_of_getElem? (i := 1439) (by decide +kernel)⟩
theorem lw_p97 : lw_okq (⟨"ExchangeHouse$Runner", "delay", "(I)I"⟩, 16) := ⟨⟨by decide +kernel, by decide +kernel⟩, List.mem_of_getElem? (i := 946) (by decide +kernel), List.mem_of_getElem? (i := 1442) (by decide +kernel), List.mem_of_getElem? (i := 1443) (by decide +kernel)⟩
theorem lw_p98 : lw_okq (⟨"ExchangeHouse$Runner", "fail", "(I)V"⟩, 16) := ⟨⟨by decide +kernel, by decide +kernel⟩, List.mem_of_getElem? (i := 946) (by decide +kernel), List.mem_of_getElem? (i := 1452) (by decide +kernel), List.mem_of_getElem? (i := 1453) (by decide +kernel)⟩
theorem lw_p99 : lw_okq (⟨"ExchangeHouse$Runner", "valued", "(III)I"⟩, 16) := ⟨⟨by decide +kernel, by decide +kernel⟩, List.mem_of_getElem? (i := 946) (by decide +kernel), List.mem_of_getElem? (i := 1497) (by decide +kernel), List.mem_of_getElem? (i := 1498) (by decide +kernel)⟩
theorem lw_p100 : lw_okq (⟨"ExchangeHouse", "slot", "(I)I"⟩, 12) := ⟨⟨by decide +kernel, by decide +kernel⟩, List.mem_of_getElem? (i := 22) (by decide +kernel), List.mem_of_getElem? (i := 1509) (by decide +kernel), List.mem_of_getElem? (i := 1510) (by decide +kernel)⟩
theorem lw_p101 : lw_okq (⟨"ExchangeHouse", "systemCount", "(I)I"⟩, 12) := ⟨⟨by decide +kernel, by decide +kernel⟩, List.mem_of_getElem? (i := 22) (by decide +kernel), List.mem_of_getElem? (i := 1552) (by decide +kernel), List.mem_of_getElem? (i := 1553) (by decide +kernel)⟩
theorem lw_p102 : lw_okq (⟨"ExchangeHouse", "runCount", "(I)I"⟩, 12) := ⟨⟨by decide +kernel, by decide +kernel⟩, List.mem_of_getElem? (i := 22) (by decide +kernel), List.mem_of_getElem? (i := 1556) (by decide +kernel), List.mem_of_getElem? (i := 1557) (by decide +kernel)⟩
theorem lw_p103 : lw_okq (⟨"ExchangeHouse$Seeker", "makeRoom", "()V"⟩, 18) := ⟨⟨by decide +kernel, by decide +kernel⟩, List.mem_of_getElem? (i := 1165) (by decide +kernel), List.mem_of_getElem? (i := 1581) (by decide +kernel), List.mem_of_getElem? (i := 1582) (by decide +kernel)⟩
theorem lw_p104 : lw_okq (⟨"ExchangeHouse$Net", "packOne", "(II[II)I"⟩, 17) := ⟨⟨by decide +kernel, by decide +kernel⟩, List.mem_of_getElem? (i := 1015) (by decide +kernel), List.mem_of_getElem? (i := 1604) (by decide +kernel), List.mem_of_getElem? (i := 1605) (by decide +kernel)⟩
theorem lw_p105 : lw_okq (⟨"ExchangeHouse$Seeker", "keep", "(III)V"⟩, 18) := ⟨⟨by decide +kernel, by decide +kernel⟩, List.mem_of_getElem? (i := 1165) (by decide +kernel), List.mem_of_getElem? (i := 1608) (by decide +kernel), List.mem_of_getElem? (i := 1609) (by decide +kernel)⟩
theorem lw_p106 : lw_okq (⟨"ExchangeHouse$Seeker", "hashOf", "(II)I"⟩, 18) := ⟨⟨by decide +kernel, by decide +kernel⟩, List.mem_of_getElem? (i := 1165) (by decide +kernel), List.mem_of_getElem? (i := 1612) (by decide +kernel), List.mem_of_getElem? (i := 1613) (by decide +kernel)⟩
theorem lw_p107 : lw_okq (⟨"ExchangeHouse$Seeker", "goThrough", "(I)V"⟩, 18) := ⟨⟨by decide +kernel, by decide +kernel⟩, List.mem_of_getElem? (i := 1165) (by decide +kernel), List.mem_of_getElem? (i := 1616) (by decide +kernel), List.mem_of_getElem? (i := 1617) (by decide +kernel)⟩
theorem lw_p108 : lw_okq (⟨"ExchangeHouse$Net", "unpackOne", "(ILExchangeHouse$Plan;[II)I"⟩, 17) := ⟨⟨by decide +kernel, by decide +kernel⟩, List.mem_of_getElem? (i := 1015) (by decide +kernel), List.mem_of_getElem? (i := 1624) (by decide +kernel), List.mem_of_getElem? (i := 1625) (by decide +kernel)⟩
theorem lw_p109 : lw_okq (⟨"ExchangeHouse$Seeker", "look", "(I)V"⟩, 18) := ⟨⟨by decide +kernel, by decide +kernel⟩, List.mem_of_getElem? (i := 1165) (by decide +kernel), List.mem_of_getElem? (i := 1630) (by decide +kernel), List.mem_of_getElem? (i := 1631) (by decide +kernel)⟩
theorem lw_p110 : lw_okq (⟨"ExchangeHouse$Seeker", "isKnown", "(I)Z"⟩, 18) := ⟨⟨by decide +kernel, by decide +kernel⟩, List.mem_of_getElem? (i := 1165) (by decide +kernel), List.mem_of_getElem? (i := 1635) (by decide +kernel), List.mem_of_getElem? (i := 1636) (by decide +kernel)⟩
theorem lw_p111 : lw_okq (⟨"ExchangeHouse$Seeker", "isLike", "(III)Z"⟩, 18) := ⟨⟨by decide +kernel, by decide +kernel⟩, List.mem_of_getElem? (i := 1165) (by decide +kernel), List.mem_of_getElem? (i := 1639) (by decide +kernel), List.mem_of_getElem? (i := 1640) (by decide +kernel)⟩
def lw_privs_7 : List (MethodName × Nat) := [(⟨"ExchangeHouse$Runner", "send", "(I)V"⟩, 16), (⟨"ExchangeHouse$Runner", "delay", "(I)I"⟩, 16), (⟨"ExchangeHouse$Runner", "fail", "(I)V"⟩, 16), (⟨"ExchangeHouse$Runner", "valued", "(III)I"⟩, 16), (⟨"ExchangeHouse", "slot", "(I)I"⟩, 12), (⟨"ExchangeHouse", "systemCount", "(I)I"⟩, 12), (⟨"ExchangeHouse", "runCount", "(I)I"⟩, 12), (⟨"ExchangeHouse$Seeker", "makeRoom", "()V"⟩, 18), (⟨"ExchangeHouse$Net", "packOne", "(II[II)I"⟩, 17), (⟨"ExchangeHouse$Seeker", "keep", "(III)V"⟩, 18), (⟨"ExchangeHouse$Seeker", "hashOf", "(II)I"⟩, 18), (⟨"ExchangeHouse$Seeker", "goThrough", "(I)V"⟩, 18), (⟨"ExchangeHouse$Net", "unpackOne", "(ILExchangeHouse$Plan;[II)I"⟩, 17), (⟨"ExchangeHouse$Seeker", "look", "(I)V"⟩, 18), (⟨"ExchangeHouse$Seeker", "isKnown", "(I)Z"⟩, 18), (⟨"ExchangeHouse$Seeker", "isLike", "(III)Z"⟩, 18)]
theorem lw_r7 : ∀ q ∈ lw_privs_7, lw_okq q := List.forall_mem_cons.mpr ⟨lw_p96, List.forall_mem_cons.mpr ⟨lw_p97, List.forall_mem_cons.mpr ⟨lw_p98, List.forall_mem_cons.mpr ⟨lw_p99, List.forall_mem_cons.mpr ⟨lw_p100, List.forall_mem_cons.mpr ⟨lw_p101, List.forall_mem_cons.mpr ⟨lw_p102, List.forall_mem_cons.mpr ⟨lw_p103, List.forall_mem_cons.mpr ⟨lw_p104, List.forall_mem_cons.mpr ⟨lw_p105, List.forall_mem_cons.mpr ⟨lw_p106, List.forall_mem_cons.mpr ⟨lw_p107, List.forall_mem_cons.mpr ⟨lw_p108, List.forall_mem_cons.mpr ⟨lw_p109, List.forall_mem_cons.mpr ⟨lw_p110, List.forall_mem_cons.mpr ⟨lw_p111, fun _ h => absurd h List.not_mem_nil⟩⟩⟩⟩⟩⟩⟩⟩⟩⟩⟩⟩⟩⟩⟩⟩
theorem lw_p112 : lw_okq (⟨"ExchangeHouse$Seeker", "stirAll", "(I)V"⟩, 18) := ⟨⟨by decide +kernel, by decide +kernel⟩, List.mem_of_getElem? (i := 1165) (by decide +kernel), List.mem_of_getElem? (i := 1645) (by decide +kernel), List.mem_of_getElem? (i := 1646) (by decide +kernel)⟩
theorem lw_p113 : lw_okq (⟨"ExchangeHouse$Seeker", "answers", "(IIII)Z"⟩, 18) := ⟨⟨by decide +kernel, by decide +kernel⟩, List.mem_of_getElem? (i := 1165) (by decide +kernel), List.mem_of_getElem? (i := 1667) (by decide +kernel), List.mem_of_getElem? (i := 1668) (by decide +kernel)⟩
theorem lw_p114 : lw_okq (⟨"ExchangeHouse$Seeker", "hasQueued", "(I)Z"⟩, 18) := ⟨⟨by decide +kernel, by decide +kernel⟩, List.mem_of_getElem? (i := 1165) (by decide +kernel), List.mem_of_getElem? (i := 1671) (by decide +kernel), List.mem_of_getElem? (i := 1672) (by decide +kernel)⟩
theorem lw_p115 : lw_okq (⟨"ExchangeHouse$Seeker", "hasInstance", "(III)Z"⟩, 18) := ⟨⟨by decide +kernel, by decide +kernel⟩, List.mem_of_getElem? (i := 1165) (by decide +kernel), List.mem_of_getElem? (i := 1675) (by decide +kernel), List.mem_of_getElem? (i := 1676) (by decide +kernel)⟩
theorem lw_p116 : lw_okq (⟨"ExchangeHouse$Sheet", "isOver", "()Z"⟩, 19) := ⟨⟨by decide +kernel, by decide +kernel⟩, List.mem_of_getElem? (i := 1691) (by decide +kernel), List.mem_of_getElem? (i := 1765) (by decide +kernel), List.mem_of_getElem? (i := 1766) (by decide +kernel)⟩
theorem lw_p117 : lw_okq (⟨"ExchangeHouse$Sheet", "inst", "()V"⟩, 19) := ⟨⟨by decide +kernel, by decide +kernel⟩, List.mem_of_getElem? (i := 1691) (by decide +kernel), List.mem_of_getElem? (i := 1770) (by decide +kernel), List.mem_of_getElem? (i := 1771) (by decide +kernel)⟩
theorem lw_p118 : lw_okq (⟨"ExchangeHouse$Sheet", "line", "(LExchangeHouse$Names;)V"⟩, 19) := ⟨⟨by decide +kernel, by decide +kernel⟩, List.mem_of_getElem? (i := 1691) (by decide +kernel), List.mem_of_getElem? (i := 1780) (by decide +kernel), List.mem_of_getElem? (i := 1781) (by decide +kernel)⟩
theorem lw_p119 : lw_okq (⟨"ExchangeHouse$Sheet", "end", "()I"⟩, 19) := ⟨⟨by decide +kernel, by decide +kernel⟩, List.mem_of_getElem? (i := 1691) (by decide +kernel), List.mem_of_getElem? (i := 1784) (by decide +kernel), List.mem_of_getElem? (i := 1785) (by decide +kernel)⟩
theorem lw_p120 : lw_okq (⟨"ExchangeHouse$Sheet", "openPoint", "(I)V"⟩, 19) := ⟨⟨by decide +kernel, by decide +kernel⟩, List.mem_of_getElem? (i := 1691) (by decide +kernel), List.mem_of_getElem? (i := 1788) (by decide +kernel), List.mem_of_getElem? (i := 1789) (by decide +kernel)⟩
theorem lw_p121 : lw_okq (⟨"ExchangeHouse$Sheet", "point", "()I"⟩, 19) := ⟨⟨by decide +kernel, by decide +kernel⟩, List.mem_of_getElem? (i := 1691) (by decide +kernel), List.mem_of_getElem? (i := 1792) (by decide +kernel), List.mem_of_getElem? (i := 1793) (by decide +kernel)⟩
theorem lw_p122 : lw_okq (⟨"ExchangeHouse$Sheet", "anotherRow", "()V"⟩, 19) := ⟨⟨by decide +kernel, by decide +kernel⟩, List.mem_of_getElem? (i := 1691) (by decide +kernel), List.mem_of_getElem? (i := 1796) (by decide +kernel), List.mem_of_getElem? (i := 1797) (by decide +kernel)⟩
theorem lw_p123 : lw_okq (⟨"ExchangeHouse$Sheet", "gather", "(LExchangeHouse$Log;)V"⟩, 19) := ⟨⟨by decide +kernel, by decide +kernel⟩, List.mem_of_getElem? (i := 1691) (by decide +kernel), List.mem_of_getElem? (i := 1804) (by decide +kernel), List.mem_of_getElem? (i := 1805) (by decide +kernel)⟩
theorem lw_p124 : lw_okq (⟨"ExchangeHouse$Sheet", "isKept", "()Z"⟩, 19) := ⟨⟨by decide +kernel, by decide +kernel⟩, List.mem_of_getElem? (i := 1691) (by decide +kernel), List.mem_of_getElem? (i := 1815) (by decide +kernel), List.mem_of_getElem? (i := 1816) (by decide +kernel)⟩
theorem lw_p125 : lw_okq (⟨"ExchangeHouse$Sheet", "isKeptBy", "(I)Z"⟩, 19) := ⟨⟨by decide +kernel, by decide +kernel⟩, List.mem_of_getElem? (i := 1691) (by decide +kernel), List.mem_of_getElem? (i := 1819) (by decide +kernel), List.mem_of_getElem? (i := 1820) (by decide +kernel)⟩
theorem lw_p126 : lw_okq (⟨"ExchangeHouse$Sheet", "isChosen", "(I)Z"⟩, 19) := ⟨⟨by decide +kernel, by decide +kernel⟩, List.mem_of_getElem? (i := 1691) (by decide +kernel), List.mem_of_getElem? (i := 1823) (by decide +kernel), List.mem_of_getElem? (i := 1824) (by decide +kernel)⟩
theorem lw_p127 : lw_okq (⟨"ExchangeHouse$Sheet", "numberOf", "(I)I"⟩, 19) := ⟨⟨by decide +kernel, by decide +kernel⟩, List.mem_of_getElem? (i := 1691) (by decide +kernel), List.mem_of_getElem? (i := 1827) (by decide +kernel), List.mem_of_getElem? (i := 1828) (by decide +kernel)⟩
def lw_privs_8 : List (MethodName × Nat) := [(⟨"ExchangeHouse$Seeker", "stirAll", "(I)V"⟩, 18), (⟨"ExchangeHouse$Seeker", "answers", "(IIII)Z"⟩, 18), (⟨"ExchangeHouse$Seeker", "hasQueued", "(I)Z"⟩, 18), (⟨"ExchangeHouse$Seeker", "hasInstance", "(III)Z"⟩, 18), (⟨"ExchangeHouse$Sheet", "isOver", "()Z"⟩, 19), (⟨"ExchangeHouse$Sheet", "inst", "()V"⟩, 19), (⟨"ExchangeHouse$Sheet", "line", "(LExchangeHouse$Names;)V"⟩, 19), (⟨"ExchangeHouse$Sheet", "end", "()I"⟩, 19), (⟨"ExchangeHouse$Sheet", "openPoint", "(I)V"⟩, 19), (⟨"ExchangeHouse$Sheet", "point", "()I"⟩, 19), (⟨"ExchangeHouse$Sheet", "anotherRow", "()V"⟩, 19), (⟨"ExchangeHouse$Sheet", "gather", "(LExchangeHouse$Log;)V"⟩, 19), (⟨"ExchangeHouse$Sheet", "isKept", "()Z"⟩, 19), (⟨"ExchangeHouse$Sheet", "isKeptBy", "(I)Z"⟩, 19), (⟨"ExchangeHouse$Sheet", "isChosen", "(I)Z"⟩, 19), (⟨"ExchangeHouse$Sheet", "numberOf", "(I)I"⟩, 19)]
theorem lw_r8 : ∀ q ∈ lw_privs_8, lw_okq q := List.forall_mem_cons.mpr ⟨lw_p112, List.forall_mem_cons.mpr ⟨lw_p113, List.forall_mem_cons.mpr ⟨lw_p114, List.forall_mem_cons.mpr ⟨lw_p115, List.forall_mem_cons.mpr ⟨lw_p116, List.forall_mem_cons.mpr ⟨lw_p117, List.forall_mem_cons.mpr ⟨lw_p118, List.forall_mem_cons.mpr ⟨lw_p119, List.forall_mem_cons.mpr ⟨lw_p120, List.forall_mem_cons.mpr ⟨lw_p121, List.forall_mem_cons.mpr ⟨lw_p122, List.forall_mem_cons.mpr ⟨lw_p123, List.forall_mem_cons.mpr ⟨lw_p124, List.forall_mem_cons.mpr ⟨lw_p125, List.forall_mem_cons.mpr ⟨lw_p126, List.forall_mem_cons.mpr ⟨lw_p127, fun _ h => absurd h List.not_mem_nil⟩⟩⟩⟩⟩⟩⟩⟩⟩⟩⟩⟩⟩⟩⟩⟩
theorem lw_p128 : lw_okq (⟨"ExchangeHouse$Sheet", "did", "(IIJ)Z"⟩, 19) := ⟨⟨by decide +kernel, by decide +kernel⟩, List.mem_of_getElem? (i := 1691) (by decide +kernel), List.mem_of_getElem? (i := 1831) (by decide +kernel), List.mem_of_getElem? (i := 1832) (by decide +kernel)⟩
theorem lw_p129 : lw_okq (⟨"ExchangeHouse$Sheet", "chooseNext", "()Z"⟩, 19) := ⟨⟨by decide +kernel, by decide +kernel⟩, List.mem_of_getElem? (i := 1691) (by decide +kernel), List.mem_of_getElem? (i := 1835) (by decide +kernel), List.mem_of_getElem? (i := 1836) (by decide +kernel)⟩
theorem lw_p130 : lw_okq (⟨"ExchangeHouseModel", "four", "(I)V"⟩, 190) := ⟨⟨by decide +kernel, by decide +kernel⟩, List.mem_of_getElem? (i := 1843) (by decide +kernel), List.mem_of_getElem? (i := 2438) (by decide +kernel), List.mem_of_getElem? (i := 2439) (by decide +kernel)⟩
theorem lw_p131 : lw_okq (⟨"ExchangeHouseModel", "toText", "(I)V"⟩, 190) := ⟨⟨by decide +kernel, by decide +kernel⟩, List.mem_of_getElem? (i := 1843) (by decide +kernel), List.mem_of_getElem? (i := 2446) (by decide +kernel), List.mem_of_getElem? (i := 2447) (by decide +kernel)⟩
theorem lw_p132 : lw_okq (⟨"ExchangeHouseModel", "parse", "()Z"⟩, 190) := ⟨⟨by decide +kernel, by decide +kernel⟩, List.mem_of_getElem? (i := 1843) (by decide +kernel), List.mem_of_getElem? (i := 2450) (by decide +kernel), List.mem_of_getElem? (i := 2451) (by decide +kernel)⟩
theorem lw_p133 : lw_okq (⟨"ExchangeHouseModel", "cut", "()V"⟩, 190) := ⟨⟨by decide +kernel, by decide +kernel⟩, List.mem_of_getElem? (i := 1843) (by decide +kernel), List.mem_of_getElem? (i := 2454) (by decide +kernel), List.mem_of_getElem? (i := 2455) (by decide +kernel)⟩
theorem lw_p134 : lw_okq (⟨"ExchangeHouseModel", "behindBlanks", "(I)I"⟩, 190) := ⟨⟨by decide +kernel, by decide +kernel⟩, List.mem_of_getElem? (i := 1843) (by decide +kernel), List.mem_of_getElem? (i := 2458) (by decide +kernel), List.mem_of_getElem? (i := 2459) (by decide +kernel)⟩
theorem lw_p135 : lw_okq (⟨"ExchangeHouseModel", "byteAt", "(I)I"⟩, 190) := ⟨⟨by decide +kernel, by decide +kernel⟩, List.mem_of_getElem? (i := 1843) (by decide +kernel), List.mem_of_getElem? (i := 2462) (by decide +kernel), List.mem_of_getElem? (i := 2463) (by decide +kernel)⟩
theorem lw_p136 : lw_okq (⟨"ExchangeHouseModel", "one", "(I)I"⟩, 190) := ⟨⟨by decide +kernel, by decide +kernel⟩, List.mem_of_getElem? (i := 1843) (by decide +kernel), List.mem_of_getElem? (i := 2466) (by decide +kernel), List.mem_of_getElem? (i := 2467) (by decide +kernel)⟩
theorem lw_p137 : lw_okq (⟨"ExchangeHouseModel", "nameFrom", "(I)I"⟩, 190) := ⟨⟨by decide +kernel, by decide +kernel⟩, List.mem_of_getElem? (i := 1843) (by decide +kernel), List.mem_of_getElem? (i := 2470) (by decide +kernel), List.mem_of_getElem? (i := 2471) (by decide +kernel)⟩
theorem lw_p138 : lw_okq (⟨"ExchangeHouseModel", "token", "(IIJ)V"⟩, 190) := ⟨⟨by decide +kernel, by decide +kernel⟩, List.mem_of_getElem? (i := 1843) (by decide +kernel), List.mem_of_getElem? (i := 2474) (by decide +kernel), List.mem_of_getElem? (i := 2475) (by decide +kernel)⟩
theorem lw_p139 : lw_okq (⟨"ExchangeHouseModel", "numberFrom", "(I)I"⟩, 190) := ⟨⟨by decide +kernel, by decide +kernel⟩, List.mem_of_getElem? (i := 1843) (by decide +kernel), List.mem_of_getElem? (i := 2478) (by decide +kernel), List.mem_of_getElem? (i := 2479) (by decide +kernel)⟩
theorem lw_p140 : lw_okq (⟨"ExchangeHouseModel", "system", "()V"⟩, 190) := ⟨⟨by decide +kernel, by decide +kernel⟩, List.mem_of_getElem? (i := 1843) (by decide +kernel), List.mem_of_getElem? (i := 2484) (by decide +kernel), List.mem_of_getElem? (i := 2485) (by decide +kernel)⟩
theorem lw_p141 : lw_okq (⟨"ExchangeHouseModel", "stops", "()Z"⟩, 190) := ⟨⟨by decide +kernel, by decide +kernel⟩, List.mem_of_getElem? (i := 1843) (by decide +kernel), List.mem_of_getElem? (i := 2488) (by decide +kernel), List.mem_of_getElem? (i := 2489) (by decide +kernel)⟩
theorem lw_p142 : lw_okq (⟨"ExchangeHouseModel", "mayWord", "(I)Z"⟩, 190) := ⟨⟨by decide +kernel, by decide +kernel⟩, List.mem_of_getElem? (i := 1843) (by decide +kernel), List.mem_of_getElem? (i := 2492) (by decide +kernel), List.mem_of_getElem? (i := 2493) (by decide +kernel)⟩
theorem lw_p143 : lw_okq (⟨"ExchangeHouseModel", "isWord", "(I)Z"⟩, 190) := ⟨⟨by decide +kernel, by decide +kernel⟩, List.mem_of_getElem? (i := 1843) (by decide +kernel), List.mem_of_getElem? (i := 2496) (by decide +kernel), List.mem_of_getElem? (i := 2497) (by decide +kernel)⟩
def lw_privs_9 : List (MethodName × Nat) := [(⟨"ExchangeHouse$Sheet", "did", "(IIJ)Z"⟩, 19), (⟨"ExchangeHouse$Sheet", "chooseNext", "()Z"⟩, 19), (⟨"ExchangeHouseModel", "four", "(I)V"⟩, 190), (⟨"ExchangeHouseModel", "toText", "(I)V"⟩, 190), (⟨"ExchangeHouseModel", "parse", "()Z"⟩, 190), (⟨"ExchangeHouseModel", "cut", "()V"⟩, 190), (⟨"ExchangeHouseModel", "behindBlanks", "(I)I"⟩, 190), (⟨"ExchangeHouseModel", "byteAt", "(I)I"⟩, 190), (⟨"ExchangeHouseModel", "one", "(I)I"⟩, 190), (⟨"ExchangeHouseModel", "nameFrom", "(I)I"⟩, 190), (⟨"ExchangeHouseModel", "token", "(IIJ)V"⟩, 190), (⟨"ExchangeHouseModel", "numberFrom", "(I)I"⟩, 190), (⟨"ExchangeHouseModel", "system", "()V"⟩, 190), (⟨"ExchangeHouseModel", "stops", "()Z"⟩, 190), (⟨"ExchangeHouseModel", "mayWord", "(I)Z"⟩, 190), (⟨"ExchangeHouseModel", "isWord", "(I)Z"⟩, 190)]
theorem lw_r9 : ∀ q ∈ lw_privs_9, lw_okq q := List.forall_mem_cons.mpr ⟨lw_p128, List.forall_mem_cons.mpr ⟨lw_p129, List.forall_mem_cons.mpr ⟨lw_p130, List.forall_mem_cons.mpr ⟨lw_p131, List.forall_mem_cons.mpr ⟨lw_p132, List.forall_mem_cons.mpr ⟨lw_p133, List.forall_mem_cons.mpr ⟨lw_p134, List.forall_mem_cons.mpr ⟨lw_p135, List.forall_mem_cons.mpr ⟨lw_p136, List.forall_mem_cons.mpr ⟨lw_p137, List.forall_mem_cons.mpr ⟨lw_p138, List.forall_mem_cons.mpr ⟨lw_p139, List.forall_mem_cons.mpr ⟨lw_p140, List.forall_mem_cons.mpr ⟨lw_p141, List.forall_mem_cons.mpr ⟨lw_p142, List.forall_mem_cons.mpr ⟨lw_p143, fun _ h => absurd h List.not_mem_nil⟩⟩⟩⟩⟩⟩⟩⟩⟩⟩⟩⟩⟩⟩⟩⟩
theorem lw_p144 : lw_okq (⟨"ExchangeHouseModel", "take", "()V"⟩, 190) := ⟨⟨by decide +kernel, by decide +kernel⟩, List.mem_of_getElem? (i := 1843) (by decide +kernel), List.mem_of_getElem? (i := 2500) (by decide +kernel), List.mem_of_getElem? (i := 2501) (by decide +kernel)⟩
theorem lw_p145 : lw_okq (⟨"ExchangeHouseModel", "breaks", "(II)V"⟩, 190) := ⟨⟨by decide +kernel, by decide +kernel⟩, List.mem_of_getElem? (i := 1843) (by decide +kernel), List.mem_of_getElem? (i := 2504) (by decide +kernel), List.mem_of_getElem? (i := 2505) (by decide +kernel)⟩
theorem lw_p146 : lw_okq (⟨"ExchangeHouseModel", "signals", "()V"⟩, 190) := ⟨⟨by decide +kernel, by decide +kernel⟩, List.mem_of_getElem? (i := 1843) (by decide +kernel), List.mem_of_getElem? (i := 2508) (by decide +kernel), List.mem_of_getElem? (i := 2509) (by decide +kernel)⟩
theorem lw_p147 : lw_okq (⟨"ExchangeHouseModel", "name", "()I"⟩, 190) := ⟨⟨by decide +kernel, by decide +kernel⟩, List.mem_of_getElem? (i := 1843) (by decide +kernel), List.mem_of_getElem? (i := 2512) (by decide +kernel), List.mem_of_getElem? (i := 2513) (by decide +kernel)⟩
theorem lw_p148 : lw_okq (⟨"ExchangeHouseModel", "wrong", "()V"⟩, 190) := ⟨⟨by decide +kernel, by decide +kernel⟩, List.mem_of_getElem? (i := 1843) (by decide +kernel), List.mem_of_getElem? (i := 2516) (by decide +kernel), List.mem_of_getElem? (i := 2517) (by decide +kernel)⟩
theorem lw_p149 : lw_okq (⟨"ExchangeHouseModel", "global", "(I)V"⟩, 190) := ⟨⟨by decide +kernel, by decide +kernel⟩, List.mem_of_getElem? (i := 1843) (by decide +kernel), List.mem_of_getElem? (i := 2520) (by decide +kernel), List.mem_of_getElem? (i := 2521) (by decide +kernel)⟩
theorem lw_p150 : lw_okq (⟨"ExchangeHouseModel", "note", "(II)V"⟩, 190) := ⟨⟨by decide +kernel, by decide +kernel⟩, List.mem_of_getElem? (i := 1843) (by decide +kernel), List.mem_of_getElem? (i := 2524) (by decide +kernel), List.mem_of_getElem? (i := 2525) (by decide +kernel)⟩
theorem lw_p151 : lw_okq (⟨"ExchangeHouseModel", "isSign", "(I)Z"⟩, 190) := ⟨⟨by decide +kernel, by decide +kernel⟩, List.mem_of_getElem? (i := 1843) (by decide +kernel), List.mem_of_getElem? (i := 2528) (by decide +kernel), List.mem_of_getElem? (i := 2529) (by decide +kernel)⟩
theorem lw_p152 : lw_okq (⟨"ExchangeHouseModel", "sorts", "(I)V"⟩, 190) := ⟨⟨by decide +kernel, by decide +kernel⟩, List.mem_of_getElem? (i := 1843) (by decide +kernel), List.mem_of_getElem? (i := 2532) (by decide +kernel), List.mem_of_getElem? (i := 2533) (by decide +kernel)⟩
theorem lw_p153 : lw_okq (⟨"ExchangeHouseModel", "openSign", "(I)V"⟩, 190) := ⟨⟨by decide +kernel, by decide +kernel⟩, List.mem_of_getElem? (i := 1843) (by decide +kernel), List.mem_of_getElem? (i := 2536) (by decide +kernel), List.mem_of_getElem? (i := 2537) (by decide +kernel)⟩
theorem lw_p154 : lw_okq (⟨"ExchangeHouseModel", "opens", "()V"⟩, 190) := ⟨⟨by decide +kernel, by decide +kernel⟩, List.mem_of_getElem? (i := 1843) (by decide +kernel), List.mem_of_getElem? (i := 2540) (by decide +kernel), List.mem_of_getElem? (i := 2541) (by decide +kernel)⟩
theorem lw_p155 : lw_okq (⟨"ExchangeHouseModel", "sort", "()I"⟩, 190) := ⟨⟨by decide +kernel, by decide +kernel⟩, List.mem_of_getElem? (i := 1843) (by decide +kernel), List.mem_of_getElem? (i := 2544) (by decide +kernel), List.mem_of_getElem? (i := 2545) (by decide +kernel)⟩
theorem lw_p156 : lw_okq (⟨"ExchangeHouseModel", "maySign", "(I)Z"⟩, 190) := ⟨⟨by decide +kernel, by decide +kernel⟩, List.mem_of_getElem? (i := 1843) (by decide +kernel), List.mem_of_getElem? (i := 2548) (by decide +kernel), List.mem_of_getElem? (i := 2549) (by decide +kernel)⟩
theorem lw_p157 : lw_okq (⟨"ExchangeHouseModel", "closeSign", "(I)V"⟩, 190) := ⟨⟨by decide +kernel, by decide +kernel⟩, List.mem_of_getElem? (i := 1843) (by decide +kernel), List.mem_of_getElem? (i := 2552) (by decide +kernel), List.mem_of_getElem? (i := 2553) (by decide +kernel)⟩
theorem lw_p158 : lw_okq (⟨"ExchangeHouseModel", "sign", "(I)V"⟩, 190) := ⟨⟨by decide +kernel, by decide +kernel⟩, List.mem_of_getElem? (i := 1843) (by decide +kernel), List.mem_of_getElem? (i := 2556) (by decide +kernel), List.mem_of_getElem? (i := 2557) (by decide +kernel)⟩
theorem lw_p159 : lw_okq (⟨"ExchangeHouseModel", "routeLine", "(I)V"⟩, 190) := ⟨⟨by decide +kernel, by decide +kernel⟩, List.mem_of_getElem? (i := 1843) (by decide +kernel), List.mem_of_getElem? (i := 2560) (by decide +kernel), List.mem_of_getElem? (i := 2561) (by decide +kernel)⟩
def lw_privs_10 : List (MethodName × Nat) := [(⟨"ExchangeHouseModel", "take", "()V"⟩, 190), (⟨"ExchangeHouseModel", "breaks", "(II)V"⟩, 190), (⟨"ExchangeHouseModel", "signals", "()V"⟩, 190), (⟨"ExchangeHouseModel", "name", "()I"⟩, 190), (⟨"ExchangeHouseModel", "wrong", "()V"⟩, 190), (⟨"ExchangeHouseModel", "global", "(I)V"⟩, 190), (⟨"ExchangeHouseModel", "note", "(II)V"⟩, 190), (⟨"ExchangeHouseModel", "isSign", "(I)Z"⟩, 190), (⟨"ExchangeHouseModel", "sorts", "(I)V"⟩, 190), (⟨"ExchangeHouseModel", "openSign", "(I)V"⟩, 190), (⟨"ExchangeHouseModel", "opens", "()V"⟩, 190), (⟨"ExchangeHouseModel", "sort", "()I"⟩, 190), (⟨"ExchangeHouseModel", "maySign", "(I)Z"⟩, 190), (⟨"ExchangeHouseModel", "closeSign", "(I)V"⟩, 190), (⟨"ExchangeHouseModel", "sign", "(I)V"⟩, 190), (⟨"ExchangeHouseModel", "routeLine", "(I)V"⟩, 190)]
theorem lw_r10 : ∀ q ∈ lw_privs_10, lw_okq q := List.forall_mem_cons.mpr ⟨lw_p144, List.forall_mem_cons.mpr ⟨lw_p145, List.forall_mem_cons.mpr ⟨lw_p146, List.forall_mem_cons.mpr ⟨lw_p147, List.forall_mem_cons.mpr ⟨lw_p148, List.forall_mem_cons.mpr ⟨lw_p149, List.forall_mem_cons.mpr ⟨lw_p150, List.forall_mem_cons.mpr ⟨lw_p151, List.forall_mem_cons.mpr ⟨lw_p152, List.forall_mem_cons.mpr ⟨lw_p153, List.forall_mem_cons.mpr ⟨lw_p154, List.forall_mem_cons.mpr ⟨lw_p155, List.forall_mem_cons.mpr ⟨lw_p156, List.forall_mem_cons.mpr ⟨lw_p157, List.forall_mem_cons.mpr ⟨lw_p158, List.forall_mem_cons.mpr ⟨lw_p159, fun _ h => absurd h List.not_mem_nil⟩⟩⟩⟩⟩⟩⟩⟩⟩⟩⟩⟩⟩⟩⟩⟩
theorem lw_p160 : lw_okq (⟨"ExchangeHouseModel", "side", "()J"⟩, 190) := ⟨⟨by decide +kernel, by decide +kernel⟩, List.mem_of_getElem? (i := 1843) (by decide +kernel), List.mem_of_getElem? (i := 2564) (by decide +kernel), List.mem_of_getElem? (i := 2565) (by decide +kernel)⟩
theorem lw_p161 : lw_okq (⟨"ExchangeHouseModel", "typeOf", "(J)I"⟩, 190) := ⟨⟨by decide +kernel, by decide +kernel⟩, List.mem_of_getElem? (i := 1843) (by decide +kernel), List.mem_of_getElem? (i := 2568) (by decide +kernel), List.mem_of_getElem? (i := 2569) (by decide +kernel)⟩
theorem lw_p162 : lw_okq (⟨"ExchangeHouseModel", "bounded", "(I)I"⟩, 190) := ⟨⟨by decide +kernel, by decide +kernel⟩, List.mem_of_getElem? (i := 1843) (by decide +kernel), List.mem_of_getElem? (i := 2572) (by decide +kernel), List.mem_of_getElem? (i := 2573) (by decide +kernel)⟩
theorem lw_p163 : lw_okq (⟨"ExchangeHouseModel", "number", "()I"⟩, 190) := ⟨⟨by decide +kernel, by decide +kernel⟩, List.mem_of_getElem? (i := 1843) (by decide +kernel), List.mem_of_getElem? (i := 2576) (by decide +kernel), List.mem_of_getElem? (i := 2577) (by decide +kernel)⟩
theorem lw_p164 : lw_okq (⟨"ExchangeHouseModel", "word", "(I)V"⟩, 190) := ⟨⟨by decide +kernel, by decide +kernel⟩, List.mem_of_getElem? (i := 1843) (by decide +kernel), List.mem_of_getElem? (i := 2580) (by decide +kernel), List.mem_of_getElem? (i := 2581) (by decide +kernel)⟩
theorem lw_p165 : lw_okq (⟨"ExchangeHouseModel", "signalOf", "(J)I"⟩, 190) := ⟨⟨by decide +kernel, by decide +kernel⟩, List.mem_of_getElem? (i := 1843) (by decide +kernel), List.mem_of_getElem? (i := 2584) (by decide +kernel), List.mem_of_getElem? (i := 2585) (by decide +kernel)⟩
theorem lw_p166 : lw_okq (⟨"ExchangeHouseModel", "process", "(I)V"⟩, 190) := ⟨⟨by decide +kernel, by decide +kernel⟩, List.mem_of_getElem? (i := 1843) (by decide +kernel), List.mem_of_getElem? (i := 2588) (by decide +kernel), List.mem_of_getElem? (i := 2589) (by decide +kernel)⟩
theorem lw_p167 : lw_okq (⟨"ExchangeHouseModel", "pars", "()I"⟩, 190) := ⟨⟨by decide +kernel, by decide +kernel⟩, List.mem_of_getElem? (i := 1843) (by decide +kernel), List.mem_of_getElem? (i := 2592) (by decide +kernel), List.mem_of_getElem? (i := 2593) (by decide +kernel)⟩
theorem lw_p168 : lw_okq (⟨"ExchangeHouseModel", "variable", "(II)V"⟩, 190) := ⟨⟨by decide +kernel, by decide +kernel⟩, List.mem_of_getElem? (i := 1843) (by decide +kernel), List.mem_of_getElem? (i := 2596) (by decide +kernel), List.mem_of_getElem? (i := 2597) (by decide +kernel)⟩
theorem lw_p169 : lw_okq (⟨"ExchangeHouseModel", "own", "(I)V"⟩, 190) := ⟨⟨by decide +kernel, by decide +kernel⟩, List.mem_of_getElem? (i := 1843) (by decide +kernel), List.mem_of_getElem? (i := 2600) (by decide +kernel), List.mem_of_getElem? (i := 2601) (by decide +kernel)⟩
theorem lw_p170 : lw_okq (⟨"ExchangeHouseModel", "holds", "(IIII)V"⟩, 190) := ⟨⟨by decide +kernel, by decide +kernel⟩, List.mem_of_getElem? (i := 1843) (by decide +kernel), List.mem_of_getElem? (i := 2604) (by decide +kernel), List.mem_of_getElem? (i := 2605) (by decide +kernel)⟩
theorem lw_p171 : lw_okq (⟨"ExchangeHouseModel", "declarations", "(I)V"⟩, 190) := ⟨⟨by decide +kernel, by decide +kernel⟩, List.mem_of_getElem? (i := 1843) (by decide +kernel), List.mem_of_getElem? (i := 2608) (by decide +kernel), List.mem_of_getElem? (i := 2609) (by decide +kernel)⟩
theorem lw_p172 : lw_okq (⟨"ExchangeHouseModel", "declared", "(I)V"⟩, 190) := ⟨⟨by decide +kernel, by decide +kernel⟩, List.mem_of_getElem? (i := 1843) (by decide +kernel), List.mem_of_getElem? (i := 2612) (by decide +kernel), List.mem_of_getElem? (i := 2613) (by decide +kernel)⟩
theorem lw_p173 : lw_okq (⟨"ExchangeHouseModel", "timerLine", "(I)V"⟩, 190) := ⟨⟨by decide +kernel, by decide +kernel⟩, List.mem_of_getElem? (i := 1843) (by decide +kernel), List.mem_of_getElem? (i := 2616) (by decide +kernel), List.mem_of_getElem? (i := 2617) (by decide +kernel)⟩
theorem lw_p174 : lw_okq (⟨"ExchangeHouseModel", "trans", "(ZI)V"⟩, 190) := ⟨⟨by decide +kernel, by decide +kernel⟩, List.mem_of_getElem? (i := 1843) (by decide +kernel), List.mem_of_getElem? (i := 2620) (by decide +kernel), List.mem_of_getElem? (i := 2621) (by decide +kernel)⟩
theorem lw_p175 : lw_okq (⟨"ExchangeHouseModel", "isLabel", "()Z"⟩, 190) := ⟨⟨by decide +kernel, by decide +kernel⟩, List.mem_of_getElem? (i := 1843) (by decide +kernel), List.mem_of_getElem? (i := 2624) (by decide +kernel), List.mem_of_getElem? (i := 2625) (by decide +kernel)⟩
def lw_privs_11 : List (MethodName × Nat) := [(⟨"ExchangeHouseModel", "side", "()J"⟩, 190), (⟨"ExchangeHouseModel", "typeOf", "(J)I"⟩, 190), (⟨"ExchangeHouseModel", "bounded", "(I)I"⟩, 190), (⟨"ExchangeHouseModel", "number", "()I"⟩, 190), (⟨"ExchangeHouseModel", "word", "(I)V"⟩, 190), (⟨"ExchangeHouseModel", "signalOf", "(J)I"⟩, 190), (⟨"ExchangeHouseModel", "process", "(I)V"⟩, 190), (⟨"ExchangeHouseModel", "pars", "()I"⟩, 190), (⟨"ExchangeHouseModel", "variable", "(II)V"⟩, 190), (⟨"ExchangeHouseModel", "own", "(I)V"⟩, 190), (⟨"ExchangeHouseModel", "holds", "(IIII)V"⟩, 190), (⟨"ExchangeHouseModel", "declarations", "(I)V"⟩, 190), (⟨"ExchangeHouseModel", "declared", "(I)V"⟩, 190), (⟨"ExchangeHouseModel", "timerLine", "(I)V"⟩, 190), (⟨"ExchangeHouseModel", "trans", "(ZI)V"⟩, 190), (⟨"ExchangeHouseModel", "isLabel", "()Z"⟩, 190)]
theorem lw_r11 : ∀ q ∈ lw_privs_11, lw_okq q := List.forall_mem_cons.mpr ⟨lw_p160, List.forall_mem_cons.mpr ⟨lw_p161, List.forall_mem_cons.mpr ⟨lw_p162, List.forall_mem_cons.mpr ⟨lw_p163, List.forall_mem_cons.mpr ⟨lw_p164, List.forall_mem_cons.mpr ⟨lw_p165, List.forall_mem_cons.mpr ⟨lw_p166, List.forall_mem_cons.mpr ⟨lw_p167, List.forall_mem_cons.mpr ⟨lw_p168, List.forall_mem_cons.mpr ⟨lw_p169, List.forall_mem_cons.mpr ⟨lw_p170, List.forall_mem_cons.mpr ⟨lw_p171, List.forall_mem_cons.mpr ⟨lw_p172, List.forall_mem_cons.mpr ⟨lw_p173, List.forall_mem_cons.mpr ⟨lw_p174, List.forall_mem_cons.mpr ⟨lw_p175, fun _ h => absurd h List.not_mem_nil⟩⟩⟩⟩⟩⟩⟩⟩⟩⟩⟩⟩⟩⟩⟩⟩
theorem lw_p176 : lw_okq (⟨"ExchangeHouseModel", "label", "(I)V"⟩, 190) := ⟨⟨by decide +kernel, by decide +kernel⟩, List.mem_of_getElem? (i := 1843) (by decide +kernel), List.mem_of_getElem? (i := 2629) (by decide +kernel), List.mem_of_getElem? (i := 2630) (by decide +kernel)⟩
theorem lw_p177 : lw_okq (⟨"ExchangeHouseModel", "isLast", "()Z"⟩, 190) := ⟨⟨by decide +kernel, by decide +kernel⟩, List.mem_of_getElem? (i := 1843) (by decide +kernel), List.mem_of_getElem? (i := 2633) (by decide +kernel), List.mem_of_getElem? (i := 2634) (by decide +kernel)⟩
theorem lw_p178 : lw_okq (⟨"ExchangeHouseModel", "last", "(I)V"⟩, 190) := ⟨⟨by decide +kernel, by decide +kernel⟩, List.mem_of_getElem? (i := 1843) (by decide +kernel), List.mem_of_getElem? (i := 2637) (by decide +kernel), List.mem_of_getElem? (i := 2638) (by decide +kernel)⟩
theorem lw_p179 : lw_okq (⟨"ExchangeHouseModel", "next", "(II)V"⟩, 190) := ⟨⟨by decide +kernel, by decide +kernel⟩, List.mem_of_getElem? (i := 1843) (by decide +kernel), List.mem_of_getElem? (i := 2641) (by decide +kernel), List.mem_of_getElem? (i := 2642) (by decide +kernel)⟩
theorem lw_p180 : lw_okq (⟨"ExchangeHouseModel", "emit", "(II)I"⟩, 190) := ⟨⟨by decide +kernel, by decide +kernel⟩, List.mem_of_getElem? (i := 1843) (by decide +kernel), List.mem_of_getElem? (i := 2645) (by decide +kernel), List.mem_of_getElem? (i := 2646) (by decide +kernel)⟩
theorem lw_p181 : lw_okq (⟨"ExchangeHouseModel", "stateOf", "(IJ)I"⟩, 190) := ⟨⟨by decide +kernel, by decide +kernel⟩, List.mem_of_getElem? (i := 1843) (by decide +kernel), List.mem_of_getElem? (i := 2649) (by decide +kernel), List.mem_of_getElem? (i := 2650) (by decide +kernel)⟩
theorem lw_p182 : lw_okq (⟨"ExchangeHouseModel", "labelOf", "(IJ)I"⟩, 190) := ⟨⟨by decide +kernel, by decide +kernel⟩, List.mem_of_getElem? (i := 1843) (by decide +kernel), List.mem_of_getElem? (i := 2653) (by decide +kernel), List.mem_of_getElem? (i := 2654) (by decide +kernel)⟩
theorem lw_p183 : lw_okq (⟨"ExchangeHouseModel", "decide", "()V"⟩, 190) := ⟨⟨by decide +kernel, by decide +kernel⟩, List.mem_of_getElem? (i := 1843) (by decide +kernel), List.mem_of_getElem? (i := 2657) (by decide +kernel), List.mem_of_getElem? (i := 2658) (by decide +kernel)⟩
theorem lw_p184 : lw_okq (⟨"ExchangeHouseModel", "wanted", "(I)I"⟩, 190) := ⟨⟨by decide +kernel, by decide +kernel⟩, List.mem_of_getElem? (i := 1843) (by decide +kernel), List.mem_of_getElem? (i := 2661) (by decide +kernel), List.mem_of_getElem? (i := 2662) (by decide +kernel)⟩
theorem lw_p185 : lw_okq (⟨"ExchangeHouseModel", "expression", "()V"⟩, 190) := ⟨⟨by decide +kernel, by decide +kernel⟩, List.mem_of_getElem? (i := 1843) (by decide +kernel), List.mem_of_getElem? (i := 2665) (by decide +kernel), List.mem_of_getElem? (i := 2666) (by decide +kernel)⟩
theorem lw_p186 : lw_okq (⟨"ExchangeHouseModel", "start", "()Z"⟩, 190) := ⟨⟨by decide +kernel, by decide +kernel⟩, List.mem_of_getElem? (i := 1843) (by decide +kernel), List.mem_of_getElem? (i := 2669) (by decide +kernel), List.mem_of_getElem? (i := 2670) (by decide +kernel)⟩
theorem lw_p187 : lw_okq (⟨"ExchangeHouseModel", "hold", "(II)V"⟩, 190) := ⟨⟨by decide +kernel, by decide +kernel⟩, List.mem_of_getElem? (i := 1843) (by decide +kernel), List.mem_of_getElem? (i := 2673) (by decide +kernel), List.mem_of_getElem? (i := 2674) (by decide +kernel)⟩
theorem lw_p188 : lw_okq (⟨"ExchangeHouseModel", "bracket", "(II)V"⟩, 190) := ⟨⟨by decide +kernel, by decide +kernel⟩, List.mem_of_getElem? (i := 1843) (by decide +kernel), List.mem_of_getElem? (i := 2677) (by decide +kernel), List.mem_of_getElem? (i := 2678) (by decide +kernel)⟩
theorem lw_p189 : lw_okq (⟨"ExchangeHouseModel", "named", "(I)Z"⟩, 190) := ⟨⟨by decide +kernel, by decide +kernel⟩, List.mem_of_getElem? (i := 1843) (by decide +kernel), List.mem_of_getElem? (i := 2681) (by decide +kernel), List.mem_of_getElem? (i := 2682) (by decide +kernel)⟩
theorem lw_p190 : lw_okq (⟨"ExchangeHouseModel", "variableOf", "(IJ)I"⟩, 190) := ⟨⟨by decide +kernel, by decide +kernel⟩, List.mem_of_getElem? (i := 1843) (by decide +kernel), List.mem_of_getElem? (i := 2685) (by decide +kernel), List.mem_of_getElem? (i := 2686) (by decide +kernel)⟩
theorem lw_p191 : lw_okq (⟨"ExchangeHouseModel", "put", "(II)V"⟩, 190) := ⟨⟨by decide +kernel, by decide +kernel⟩, List.mem_of_getElem? (i := 1843) (by decide +kernel), List.mem_of_getElem? (i := 2689) (by decide +kernel), List.mem_of_getElem? (i := 2690) (by decide +kernel)⟩
def lw_privs_12 : List (MethodName × Nat) := [(⟨"ExchangeHouseModel", "label", "(I)V"⟩, 190), (⟨"ExchangeHouseModel", "isLast", "()Z"⟩, 190), (⟨"ExchangeHouseModel", "last", "(I)V"⟩, 190), (⟨"ExchangeHouseModel", "next", "(II)V"⟩, 190), (⟨"ExchangeHouseModel", "emit", "(II)I"⟩, 190), (⟨"ExchangeHouseModel", "stateOf", "(IJ)I"⟩, 190), (⟨"ExchangeHouseModel", "labelOf", "(IJ)I"⟩, 190), (⟨"ExchangeHouseModel", "decide", "()V"⟩, 190), (⟨"ExchangeHouseModel", "wanted", "(I)I"⟩, 190), (⟨"ExchangeHouseModel", "expression", "()V"⟩, 190), (⟨"ExchangeHouseModel", "start", "()Z"⟩, 190), (⟨"ExchangeHouseModel", "hold", "(II)V"⟩, 190), (⟨"ExchangeHouseModel", "bracket", "(II)V"⟩, 190), (⟨"ExchangeHouseModel", "named", "(I)Z"⟩, 190), (⟨"ExchangeHouseModel", "variableOf", "(IJ)I"⟩, 190), (⟨"ExchangeHouseModel", "put", "(II)V"⟩, 190)]
theorem lw_r12 : ∀ q ∈ lw_privs_12, lw_okq q := List.forall_mem_cons.mpr ⟨lw_p176, List.forall_mem_cons.mpr ⟨lw_p177, List.forall_mem_cons.mpr ⟨lw_p178, List.forall_mem_cons.mpr ⟨lw_p179, List.forall_mem_cons.mpr ⟨lw_p180, List.forall_mem_cons.mpr ⟨lw_p181, List.forall_mem_cons.mpr ⟨lw_p182, List.forall_mem_cons.mpr ⟨lw_p183, List.forall_mem_cons.mpr ⟨lw_p184, List.forall_mem_cons.mpr ⟨lw_p185, List.forall_mem_cons.mpr ⟨lw_p186, List.forall_mem_cons.mpr ⟨lw_p187, List.forall_mem_cons.mpr ⟨lw_p188, List.forall_mem_cons.mpr ⟨lw_p189, List.forall_mem_cons.mpr ⟨lw_p190, List.forall_mem_cons.mpr ⟨lw_p191, fun _ h => absurd h List.not_mem_nil⟩⟩⟩⟩⟩⟩⟩⟩⟩⟩⟩⟩⟩⟩⟩⟩
theorem lw_p192 : lw_okq (⟨"ExchangeHouseModel", "operand", "(IIZ)V"⟩, 190) := ⟨⟨by decide +kernel, by decide +kernel⟩, List.mem_of_getElem? (i := 1843) (by decide +kernel), List.mem_of_getElem? (i := 2693) (by decide +kernel), List.mem_of_getElem? (i := 2694) (by decide +kernel)⟩
theorem lw_p193 : lw_okq (⟨"ExchangeHouseModel", "prefixes", "()V"⟩, 190) := ⟨⟨by decide +kernel, by decide +kernel⟩, List.mem_of_getElem? (i := 1843) (by decide +kernel), List.mem_of_getElem? (i := 2697) (by decide +kernel), List.mem_of_getElem? (i := 2698) (by decide +kernel)⟩
theorem lw_p194 : lw_okq (⟨"ExchangeHouseModel", "asks", "(II)Z"⟩, 190) := ⟨⟨by decide +kernel, by decide +kernel⟩, List.mem_of_getElem? (i := 1843) (by decide +kernel), List.mem_of_getElem? (i := 2701) (by decide +kernel), List.mem_of_getElem? (i := 2702) (by decide +kernel)⟩
theorem lw_p195 : lw_okq (⟨"ExchangeHouseModel", "told", "(I)Z"⟩, 190) := ⟨⟨by decide +kernel, by decide +kernel⟩, List.mem_of_getElem? (i := 1843) (by decide +kernel), List.mem_of_getElem? (i := 2705) (by decide +kernel), List.mem_of_getElem? (i := 2706) (by decide +kernel)⟩
theorem lw_p196 : lw_okq (⟨"ExchangeHouseModel", "timerNamed", "()I"⟩, 190) := ⟨⟨by decide +kernel, by decide +kernel⟩, List.mem_of_getElem? (i := 1843) (by decide +kernel), List.mem_of_getElem? (i := 2709) (by decide +kernel), List.mem_of_getElem? (i := 2710) (by decide +kernel)⟩
theorem lw_p197 : lw_okq (⟨"ExchangeHouseModel", "timerOf", "(IJ)I"⟩, 190) := ⟨⟨by decide +kernel, by decide +kernel⟩, List.mem_of_getElem? (i := 1843) (by decide +kernel), List.mem_of_getElem? (i := 2713) (by decide +kernel), List.mem_of_getElem? (i := 2714) (by decide +kernel)⟩
theorem lw_p198 : lw_okq (⟨"ExchangeHouseModel", "lastBracket", "()I"⟩, 190) := ⟨⟨by decide +kernel, by decide +kernel⟩, List.mem_of_getElem? (i := 1843) (by decide +kernel), List.mem_of_getElem? (i := 2717) (by decide +kernel), List.mem_of_getElem? (i := 2718) (by decide +kernel)⟩
theorem lw_p199 : lw_okq (⟨"ExchangeHouseModel", "closes", "()V"⟩, 190) := ⟨⟨by decide +kernel, by decide +kernel⟩, List.mem_of_getElem? (i := 1843) (by decide +kernel), List.mem_of_getElem? (i := 2721) (by decide +kernel), List.mem_of_getElem? (i := 2722) (by decide +kernel)⟩
theorem lw_p200 : lw_okq (⟨"ExchangeHouseModel", "reduce", "(I)V"⟩, 190) := ⟨⟨by decide +kernel, by decide +kernel⟩, List.mem_of_getElem? (i := 1843) (by decide +kernel), List.mem_of_getElem? (i := 2725) (by decide +kernel), List.mem_of_getElem? (i := 2726) (by decide +kernel)⟩
theorem lw_p201 : lw_okq (⟨"ExchangeHouseModel", "level", "()I"⟩, 190) := ⟨⟨by decide +kernel, by decide +kernel⟩, List.mem_of_getElem? (i := 1843) (by decide +kernel), List.mem_of_getElem? (i := 2732) (by decide +kernel), List.mem_of_getElem? (i := 2733) (by decide +kernel)⟩
theorem lw_p202 : lw_okq (⟨"ExchangeHouseModel", "between", "(I)V"⟩, 190) := ⟨⟨by decide +kernel, by decide +kernel⟩, List.mem_of_getElem? (i := 1843) (by decide +kernel), List.mem_of_getElem? (i := 2736) (by decide +kernel), List.mem_of_getElem? (i := 2737) (by decide +kernel)⟩
theorem lw_p203 : lw_okq (⟨"ExchangeHouseModel", "signHere", "()I"⟩, 190) := ⟨⟨by decide +kernel, by decide +kernel⟩, List.mem_of_getElem? (i := 1843) (by decide +kernel), List.mem_of_getElem? (i := 2740) (by decide +kernel), List.mem_of_getElem? (i := 2741) (by decide +kernel)⟩
theorem lw_p204 : lw_okq (⟨"ExchangeHouseModel", "branch", "()V"⟩, 190) := ⟨⟨by decide +kernel, by decide +kernel⟩, List.mem_of_getElem? (i := 1843) (by decide +kernel), List.mem_of_getElem? (i := 2744) (by decide +kernel), List.mem_of_getElem? (i := 2745) (by decide +kernel)⟩
theorem lw_p205 : lw_okq (⟨"ExchangeHouseModel", "isRange", "()Z"⟩, 190) := ⟨⟨by decide +kernel, by decide +kernel⟩, List.mem_of_getElem? (i := 1843) (by decide +kernel), List.mem_of_getElem? (i := 2748) (by decide +kernel), List.mem_of_getElem? (i := 2749) (by decide +kernel)⟩
theorem lw_p206 : lw_okq (⟨"ExchangeHouseModel", "range", "(II)V"⟩, 190) := ⟨⟨by decide +kernel, by decide +kernel⟩, List.mem_of_getElem? (i := 1843) (by decide +kernel), List.mem_of_getElem? (i := 2752) (by decide +kernel), List.mem_of_getElem? (i := 2753) (by decide +kernel)⟩
theorem lw_p207 : lw_okq (⟨"ExchangeHouseModel", "bound", "()I"⟩, 190) := ⟨⟨by decide +kernel, by decide +kernel⟩, List.mem_of_getElem? (i := 1843) (by decide +kernel), List.mem_of_getElem? (i := 2756) (by decide +kernel), List.mem_of_getElem? (i := 2757) (by decide +kernel)⟩
def lw_privs_13 : List (MethodName × Nat) := [(⟨"ExchangeHouseModel", "operand", "(IIZ)V"⟩, 190), (⟨"ExchangeHouseModel", "prefixes", "()V"⟩, 190), (⟨"ExchangeHouseModel", "asks", "(II)Z"⟩, 190), (⟨"ExchangeHouseModel", "told", "(I)Z"⟩, 190), (⟨"ExchangeHouseModel", "timerNamed", "()I"⟩, 190), (⟨"ExchangeHouseModel", "timerOf", "(IJ)I"⟩, 190), (⟨"ExchangeHouseModel", "lastBracket", "()I"⟩, 190), (⟨"ExchangeHouseModel", "closes", "()V"⟩, 190), (⟨"ExchangeHouseModel", "reduce", "(I)V"⟩, 190), (⟨"ExchangeHouseModel", "level", "()I"⟩, 190), (⟨"ExchangeHouseModel", "between", "(I)V"⟩, 190), (⟨"ExchangeHouseModel", "signHere", "()I"⟩, 190), (⟨"ExchangeHouseModel", "branch", "()V"⟩, 190), (⟨"ExchangeHouseModel", "isRange", "()Z"⟩, 190), (⟨"ExchangeHouseModel", "range", "(II)V"⟩, 190), (⟨"ExchangeHouseModel", "bound", "()I"⟩, 190)]
theorem lw_r13 : ∀ q ∈ lw_privs_13, lw_okq q := List.forall_mem_cons.mpr ⟨lw_p192, List.forall_mem_cons.mpr ⟨lw_p193, List.forall_mem_cons.mpr ⟨lw_p194, List.forall_mem_cons.mpr ⟨lw_p195, List.forall_mem_cons.mpr ⟨lw_p196, List.forall_mem_cons.mpr ⟨lw_p197, List.forall_mem_cons.mpr ⟨lw_p198, List.forall_mem_cons.mpr ⟨lw_p199, List.forall_mem_cons.mpr ⟨lw_p200, List.forall_mem_cons.mpr ⟨lw_p201, List.forall_mem_cons.mpr ⟨lw_p202, List.forall_mem_cons.mpr ⟨lw_p203, List.forall_mem_cons.mpr ⟨lw_p204, List.forall_mem_cons.mpr ⟨lw_p205, List.forall_mem_cons.mpr ⟨lw_p206, List.forall_mem_cons.mpr ⟨lw_p207, fun _ h => absurd h List.not_mem_nil⟩⟩⟩⟩⟩⟩⟩⟩⟩⟩⟩⟩⟩⟩⟩⟩
theorem lw_p208 : lw_okq (⟨"ExchangeHouseModel", "isAct", "()Z"⟩, 190) := ⟨⟨by decide +kernel, by decide +kernel⟩, List.mem_of_getElem? (i := 1843) (by decide +kernel), List.mem_of_getElem? (i := 2760) (by decide +kernel), List.mem_of_getElem? (i := 2761) (by decide +kernel)⟩
theorem lw_p209 : lw_okq (⟨"ExchangeHouseModel", "act", "()V"⟩, 190) := ⟨⟨by decide +kernel, by decide +kernel⟩, List.mem_of_getElem? (i := 1843) (by decide +kernel), List.mem_of_getElem? (i := 2764) (by decide +kernel), List.mem_of_getElem? (i := 2765) (by decide +kernel)⟩
theorem lw_p210 : lw_okq (⟨"ExchangeHouseModel", "output", "(I)V"⟩, 190) := ⟨⟨by decide +kernel, by decide +kernel⟩, List.mem_of_getElem? (i := 1843) (by decide +kernel), List.mem_of_getElem? (i := 2768) (by decide +kernel), List.mem_of_getElem? (i := 2769) (by decide +kernel)⟩
theorem lw_p211 : lw_okq (⟨"ExchangeHouseModel", "values", "(IIII)V"⟩, 190) := ⟨⟨by decide +kernel, by decide +kernel⟩, List.mem_of_getElem? (i := 1843) (by decide +kernel), List.mem_of_getElem? (i := 2772) (by decide +kernel), List.mem_of_getElem? (i := 2773) (by decide +kernel)⟩
theorem lw_p212 : lw_okq (⟨"ExchangeHouseModel", "fourth", "()V"⟩, 190) := ⟨⟨by decide +kernel, by decide +kernel⟩, List.mem_of_getElem? (i := 1843) (by decide +kernel), List.mem_of_getElem? (i := 2776) (by decide +kernel), List.mem_of_getElem? (i := 2777) (by decide +kernel)⟩
theorem lw_p213 : lw_okq (⟨"ExchangeHouseModel", "routeOf", "(J)I"⟩, 190) := ⟨⟨by decide +kernel, by decide +kernel⟩, List.mem_of_getElem? (i := 1843) (by decide +kernel), List.mem_of_getElem? (i := 2782) (by decide +kernel), List.mem_of_getElem? (i := 2783) (by decide +kernel)⟩
theorem lw_p214 : lw_okq (⟨"ExchangeHouseModel", "create", "(I)V"⟩, 190) := ⟨⟨by decide +kernel, by decide +kernel⟩, List.mem_of_getElem? (i := 1843) (by decide +kernel), List.mem_of_getElem? (i := 2786) (by decide +kernel), List.mem_of_getElem? (i := 2787) (by decide +kernel)⟩
theorem lw_p215 : lw_okq (⟨"ExchangeHouseModel", "assign", "(I)V"⟩, 190) := ⟨⟨by decide +kernel, by decide +kernel⟩, List.mem_of_getElem? (i := 1843) (by decide +kernel), List.mem_of_getElem? (i := 2790) (by decide +kernel), List.mem_of_getElem? (i := 2791) (by decide +kernel)⟩
theorem lw_p216 : lw_okq (⟨"ExchangeHouseModel", "behindPart", "()V"⟩, 190) := ⟨⟨by decide +kernel, by decide +kernel⟩, List.mem_of_getElem? (i := 1843) (by decide +kernel), List.mem_of_getElem? (i := 2794) (by decide +kernel), List.mem_of_getElem? (i := 2795) (by decide +kernel)⟩
theorem lw_p217 : lw_okq (⟨"ExchangeHouseModel", "stateLine", "()V"⟩, 190) := ⟨⟨by decide +kernel, by decide +kernel⟩, List.mem_of_getElem? (i := 1843) (by decide +kernel), List.mem_of_getElem? (i := 2798) (by decide +kernel), List.mem_of_getElem? (i := 2799) (by decide +kernel)⟩
theorem lw_p218 : lw_okq (⟨"ExchangeHouseModel", "stateHere", "(I)I"⟩, 190) := ⟨⟨by decide +kernel, by decide +kernel⟩, List.mem_of_getElem? (i := 1843) (by decide +kernel), List.mem_of_getElem? (i := 2802) (by decide +kernel), List.mem_of_getElem? (i := 2803) (by decide +kernel)⟩
theorem lw_p219 : lw_okq (⟨"ExchangeHouseModel", "input", "(I)V"⟩, 190) := ⟨⟨by decide +kernel, by decide +kernel⟩, List.mem_of_getElem? (i := 1843) (by decide +kernel), List.mem_of_getElem? (i := 2806) (by decide +kernel), List.mem_of_getElem? (i := 2807) (by decide +kernel)⟩
theorem lw_p220 : lw_okq (⟨"ExchangeHouseModel", "stim", "(II)I"⟩, 190) := ⟨⟨by decide +kernel, by decide +kernel⟩, List.mem_of_getElem? (i := 1843) (by decide +kernel), List.mem_of_getElem? (i := 2810) (by decide +kernel), List.mem_of_getElem? (i := 2811) (by decide +kernel)⟩
theorem lw_p221 : lw_okq (⟨"ExchangeHouseModel", "heard", "(IIZ)V"⟩, 190) := ⟨⟨by decide +kernel, by decide +kernel⟩, List.mem_of_getElem? (i := 1843) (by decide +kernel), List.mem_of_getElem? (i := 2814) (by decide +kernel), List.mem_of_getElem? (i := 2815) (by decide +kernel)⟩
theorem lw_p222 : lw_okq (⟨"ExchangeHouseModel", "again", "(III)V"⟩, 190) := ⟨⟨by decide +kernel, by decide +kernel⟩, List.mem_of_getElem? (i := 1843) (by decide +kernel), List.mem_of_getElem? (i := 2818) (by decide +kernel), List.mem_of_getElem? (i := 2819) (by decide +kernel)⟩
theorem lw_p223 : lw_okq (⟨"ExchangeHouseModel", "valuesOf", "(III)V"⟩, 190) := ⟨⟨by decide +kernel, by decide +kernel⟩, List.mem_of_getElem? (i := 1843) (by decide +kernel), List.mem_of_getElem? (i := 2822) (by decide +kernel), List.mem_of_getElem? (i := 2823) (by decide +kernel)⟩
def lw_privs_14 : List (MethodName × Nat) := [(⟨"ExchangeHouseModel", "isAct", "()Z"⟩, 190), (⟨"ExchangeHouseModel", "act", "()V"⟩, 190), (⟨"ExchangeHouseModel", "output", "(I)V"⟩, 190), (⟨"ExchangeHouseModel", "values", "(IIII)V"⟩, 190), (⟨"ExchangeHouseModel", "fourth", "()V"⟩, 190), (⟨"ExchangeHouseModel", "routeOf", "(J)I"⟩, 190), (⟨"ExchangeHouseModel", "create", "(I)V"⟩, 190), (⟨"ExchangeHouseModel", "assign", "(I)V"⟩, 190), (⟨"ExchangeHouseModel", "behindPart", "()V"⟩, 190), (⟨"ExchangeHouseModel", "stateLine", "()V"⟩, 190), (⟨"ExchangeHouseModel", "stateHere", "(I)I"⟩, 190), (⟨"ExchangeHouseModel", "input", "(I)V"⟩, 190), (⟨"ExchangeHouseModel", "stim", "(II)I"⟩, 190), (⟨"ExchangeHouseModel", "heard", "(IIZ)V"⟩, 190), (⟨"ExchangeHouseModel", "again", "(III)V"⟩, 190), (⟨"ExchangeHouseModel", "valuesOf", "(III)V"⟩, 190)]
theorem lw_r14 : ∀ q ∈ lw_privs_14, lw_okq q := List.forall_mem_cons.mpr ⟨lw_p208, List.forall_mem_cons.mpr ⟨lw_p209, List.forall_mem_cons.mpr ⟨lw_p210, List.forall_mem_cons.mpr ⟨lw_p211, List.forall_mem_cons.mpr ⟨lw_p212, List.forall_mem_cons.mpr ⟨lw_p213, List.forall_mem_cons.mpr ⟨lw_p214, List.forall_mem_cons.mpr ⟨lw_p215, List.forall_mem_cons.mpr ⟨lw_p216, List.forall_mem_cons.mpr ⟨lw_p217, List.forall_mem_cons.mpr ⟨lw_p218, List.forall_mem_cons.mpr ⟨lw_p219, List.forall_mem_cons.mpr ⟨lw_p220, List.forall_mem_cons.mpr ⟨lw_p221, List.forall_mem_cons.mpr ⟨lw_p222, List.forall_mem_cons.mpr ⟨lw_p223, fun _ h => absurd h List.not_mem_nil⟩⟩⟩⟩⟩⟩⟩⟩⟩⟩⟩⟩⟩⟩⟩⟩
theorem lw_p224 : lw_okq (⟨"ExchangeHouseModel", "into", "(IIIII)V"⟩, 190) := ⟨⟨by decide +kernel, by decide +kernel⟩, List.mem_of_getElem? (i := 1843) (by decide +kernel), List.mem_of_getElem? (i := 2826) (by decide +kernel), List.mem_of_getElem? (i := 2827) (by decide +kernel)⟩
theorem lw_p225 : lw_okq (⟨"ExchangeHouseModel", "save", "(I)V"⟩, 190) := ⟨⟨by decide +kernel, by decide +kernel⟩, List.mem_of_getElem? (i := 1843) (by decide +kernel), List.mem_of_getElem? (i := 2830) (by decide +kernel), List.mem_of_getElem? (i := 2831) (by decide +kernel)⟩
theorem lw_p226 : lw_okq (⟨"ExchangeHouseModel", "when", "(I)V"⟩, 190) := ⟨⟨by decide +kernel, by decide +kernel⟩, List.mem_of_getElem? (i := 1843) (by decide +kernel), List.mem_of_getElem? (i := 2834) (by decide +kernel), List.mem_of_getElem? (i := 2835) (by decide +kernel)⟩
theorem lw_p227 : lw_okq (⟨"ExchangeHouseModel", "endStim", "(I)V"⟩, 190) := ⟨⟨by decide +kernel, by decide +kernel⟩, List.mem_of_getElem? (i := 1843) (by decide +kernel), List.mem_of_getElem? (i := 2838) (by decide +kernel), List.mem_of_getElem? (i := 2839) (by decide +kernel)⟩
theorem lw_p228 : lw_okq (⟨"ExchangeHouseModel", "resolve", "()V"⟩, 190) := ⟨⟨by decide +kernel, by decide +kernel⟩, List.mem_of_getElem? (i := 1843) (by decide +kernel), List.mem_of_getElem? (i := 2842) (by decide +kernel), List.mem_of_getElem? (i := 2843) (by decide +kernel)⟩
theorem lw_p229 : lw_okq (⟨"ExchangeHouseModel", "warn", "()V"⟩, 190) := ⟨⟨by decide +kernel, by decide +kernel⟩, List.mem_of_getElem? (i := 1843) (by decide +kernel), List.mem_of_getElem? (i := 2847) (by decide +kernel), List.mem_of_getElem? (i := 2848) (by decide +kernel)⟩
theorem lw_p230 : lw_okq (⟨"ExchangeHouseModel", "come", "(I)V"⟩, 190) := ⟨⟨by decide +kernel, by decide +kernel⟩, List.mem_of_getElem? (i := 1843) (by decide +kernel), List.mem_of_getElem? (i := 2851) (by decide +kernel), List.mem_of_getElem? (i := 2852) (by decide +kernel)⟩
theorem lw_p231 : lw_okq (⟨"ExchangeHouseModel", "warnOf", "(II)V"⟩, 190) := ⟨⟨by decide +kernel, by decide +kernel⟩, List.mem_of_getElem? (i := 1843) (by decide +kernel), List.mem_of_getElem? (i := 2855) (by decide +kernel), List.mem_of_getElem? (i := 2856) (by decide +kernel)⟩
theorem lw_p232 : lw_okq (⟨"ExchangeHouseModel", "make", "(II)I"⟩, 190) := ⟨⟨by decide +kernel, by decide +kernel⟩, List.mem_of_getElem? (i := 1843) (by decide +kernel), List.mem_of_getElem? (i := 2871) (by decide +kernel), List.mem_of_getElem? (i := 2872) (by decide +kernel)⟩
theorem lw_p233 : lw_okq (⟨"ExchangeHouseModel", "write", "(IIII)V"⟩, 190) := ⟨⟨by decide +kernel, by decide +kernel⟩, List.mem_of_getElem? (i := 1843) (by decide +kernel), List.mem_of_getElem? (i := 2878) (by decide +kernel), List.mem_of_getElem? (i := 2879) (by decide +kernel)⟩
theorem lw_p234 : lw_okq (⟨"ExchangeHouseModel", "due", "()V"⟩, 190) := ⟨⟨by decide +kernel, by decide +kernel⟩, List.mem_of_getElem? (i := 1843) (by decide +kernel), List.mem_of_getElem? (i := 2886) (by decide +kernel), List.mem_of_getElem? (i := 2887) (by decide +kernel)⟩
theorem lw_p235 : lw_okq (⟨"ExchangeHouseModel", "firstOf", "(I)V"⟩, 190) := ⟨⟨by decide +kernel, by decide +kernel⟩, List.mem_of_getElem? (i := 1843) (by decide +kernel), List.mem_of_getElem? (i := 2893) (by decide +kernel), List.mem_of_getElem? (i := 2894) (by decide +kernel)⟩
theorem lw_p236 : lw_okq (⟨"ExchangeHouseModel", "arrive", "(III)V"⟩, 190) := ⟨⟨by decide +kernel, by decide +kernel⟩, List.mem_of_getElem? (i := 1843) (by decide +kernel), List.mem_of_getElem? (i := 2897) (by decide +kernel), List.mem_of_getElem? (i := 2898) (by decide +kernel)⟩
theorem lw_p237 : lw_okq (⟨"ExchangeHouseModel", "writeOut", "(II)V"⟩, 190) := ⟨⟨by decide +kernel, by decide +kernel⟩, List.mem_of_getElem? (i := 1843) (by decide +kernel), List.mem_of_getElem? (i := 2901) (by decide +kernel), List.mem_of_getElem? (i := 2902) (by decide +kernel)⟩
theorem lw_p238 : lw_okq (⟨"ExchangeHouseModel", "slotOf", "(I)I"⟩, 190) := ⟨⟨by decide +kernel, by decide +kernel⟩, List.mem_of_getElem? (i := 1843) (by decide +kernel), List.mem_of_getElem? (i := 2905) (by decide +kernel), List.mem_of_getElem? (i := 2906) (by decide +kernel)⟩
theorem lw_p239 : lw_okq (⟨"ExchangeHouseModel", "queue", "(III)Z"⟩, 190) := ⟨⟨by decide +kernel, by decide +kernel⟩, List.mem_of_getElem? (i := 1843) (by decide +kernel), List.mem_of_getElem? (i := 2909) (by decide +kernel), List.mem_of_getElem? (i := 2910) (by decide +kernel)⟩
def lw_privs_15 : List (MethodName × Nat) := [(⟨"ExchangeHouseModel", "into", "(IIIII)V"⟩, 190), (⟨"ExchangeHouseModel", "save", "(I)V"⟩, 190), (⟨"ExchangeHouseModel", "when", "(I)V"⟩, 190), (⟨"ExchangeHouseModel", "endStim", "(I)V"⟩, 190), (⟨"ExchangeHouseModel", "resolve", "()V"⟩, 190), (⟨"ExchangeHouseModel", "warn", "()V"⟩, 190), (⟨"ExchangeHouseModel", "come", "(I)V"⟩, 190), (⟨"ExchangeHouseModel", "warnOf", "(II)V"⟩, 190), (⟨"ExchangeHouseModel", "make", "(II)I"⟩, 190), (⟨"ExchangeHouseModel", "write", "(IIII)V"⟩, 190), (⟨"ExchangeHouseModel", "due", "()V"⟩, 190), (⟨"ExchangeHouseModel", "firstOf", "(I)V"⟩, 190), (⟨"ExchangeHouseModel", "arrive", "(III)V"⟩, 190), (⟨"ExchangeHouseModel", "writeOut", "(II)V"⟩, 190), (⟨"ExchangeHouseModel", "slotOf", "(I)I"⟩, 190), (⟨"ExchangeHouseModel", "queue", "(III)Z"⟩, 190)]
theorem lw_r15 : ∀ q ∈ lw_privs_15, lw_okq q := List.forall_mem_cons.mpr ⟨lw_p224, List.forall_mem_cons.mpr ⟨lw_p225, List.forall_mem_cons.mpr ⟨lw_p226, List.forall_mem_cons.mpr ⟨lw_p227, List.forall_mem_cons.mpr ⟨lw_p228, List.forall_mem_cons.mpr ⟨lw_p229, List.forall_mem_cons.mpr ⟨lw_p230, List.forall_mem_cons.mpr ⟨lw_p231, List.forall_mem_cons.mpr ⟨lw_p232, List.forall_mem_cons.mpr ⟨lw_p233, List.forall_mem_cons.mpr ⟨lw_p234, List.forall_mem_cons.mpr ⟨lw_p235, List.forall_mem_cons.mpr ⟨lw_p236, List.forall_mem_cons.mpr ⟨lw_p237, List.forall_mem_cons.mpr ⟨lw_p238, List.forall_mem_cons.mpr ⟨lw_p239, fun _ h => absurd h List.not_mem_nil⟩⟩⟩⟩⟩⟩⟩⟩⟩⟩⟩⟩⟩⟩⟩⟩
theorem lw_p240 : lw_okq (⟨"ExchangeHouseModel", "lose", "(III)V"⟩, 190) := ⟨⟨by decide +kernel, by decide +kernel⟩, List.mem_of_getElem? (i := 1843) (by decide +kernel), List.mem_of_getElem? (i := 2913) (by decide +kernel), List.mem_of_getElem? (i := 2914) (by decide +kernel)⟩
theorem lw_p241 : lw_okq (⟨"ExchangeHouseModel", "timerComes", "(II)V"⟩, 190) := ⟨⟨by decide +kernel, by decide +kernel⟩, List.mem_of_getElem? (i := 1843) (by decide +kernel), List.mem_of_getElem? (i := 2917) (by decide +kernel), List.mem_of_getElem? (i := 2918) (by decide +kernel)⟩
theorem lw_p242 : lw_okq (⟨"ExchangeHouseModel", "ready", "()I"⟩, 190) := ⟨⟨by decide +kernel, by decide +kernel⟩, List.mem_of_getElem? (i := 1843) (by decide +kernel), List.mem_of_getElem? (i := 2921) (by decide +kernel), List.mem_of_getElem? (i := 2922) (by decide +kernel)⟩
theorem lw_p243 : lw_okq (⟨"ExchangeHouseModel", "stepOf", "(I)I"⟩, 190) := ⟨⟨by decide +kernel, by decide +kernel⟩, List.mem_of_getElem? (i := 1843) (by decide +kernel), List.mem_of_getElem? (i := 2925) (by decide +kernel), List.mem_of_getElem? (i := 2926) (by decide +kernel)⟩
theorem lw_p244 : lw_okq (⟨"ExchangeHouseModel", "listed", "(III)Z"⟩, 190) := ⟨⟨by decide +kernel, by decide +kernel⟩, List.mem_of_getElem? (i := 1843) (by decide +kernel), List.mem_of_getElem? (i := 2929) (by decide +kernel), List.mem_of_getElem? (i := 2930) (by decide +kernel)⟩
theorem lw_p245 : lw_okq (⟨"ExchangeHouseModel", "isTrue", "(II)Z"⟩, 190) := ⟨⟨by decide +kernel, by decide +kernel⟩, List.mem_of_getElem? (i := 1843) (by decide +kernel), List.mem_of_getElem? (i := 2933) (by decide +kernel), List.mem_of_getElem? (i := 2934) (by decide +kernel)⟩
theorem lw_p246 : lw_okq (⟨"ExchangeHouseModel", "work", "(II)I"⟩, 190) := ⟨⟨by decide +kernel, by decide +kernel⟩, List.mem_of_getElem? (i := 1843) (by decide +kernel), List.mem_of_getElem? (i := 2937) (by decide +kernel), List.mem_of_getElem? (i := 2938) (by decide +kernel)⟩
theorem lw_p247 : lw_okq (⟨"ExchangeHouseModel", "formStep", "(III)V"⟩, 190) := ⟨⟨by decide +kernel, by decide +kernel⟩, List.mem_of_getElem? (i := 1843) (by decide +kernel), List.mem_of_getElem? (i := 2941) (by decide +kernel), List.mem_of_getElem? (i := 2942) (by decide +kernel)⟩
theorem lw_p248 : lw_okq (⟨"ExchangeHouseModel", "push", "(I)V"⟩, 190) := ⟨⟨by decide +kernel, by decide +kernel⟩, List.mem_of_getElem? (i := 1843) (by decide +kernel), List.mem_of_getElem? (i := 2945) (by decide +kernel), List.mem_of_getElem? (i := 2946) (by decide +kernel)⟩
theorem lw_p249 : lw_okq (⟨"ExchangeHouseModel", "isActive", "(II)Z"⟩, 190) := ⟨⟨by decide +kernel, by decide +kernel⟩, List.mem_of_getElem? (i := 1843) (by decide +kernel), List.mem_of_getElem? (i := 2949) (by decide +kernel), List.mem_of_getElem? (i := 2950) (by decide +kernel)⟩
theorem lw_p250 : lw_okq (⟨"ExchangeHouseModel", "two", "(III)V"⟩, 190) := ⟨⟨by decide +kernel, by decide +kernel⟩, List.mem_of_getElem? (i := 1843) (by decide +kernel), List.mem_of_getElem? (i := 2953) (by decide +kernel), List.mem_of_getElem? (i := 2954) (by decide +kernel)⟩
theorem lw_p251 : lw_okq (⟨"ExchangeHouseModel", "step", "(II)V"⟩, 190) := ⟨⟨by decide +kernel, by decide +kernel⟩, List.mem_of_getElem? (i := 1843) (by decide +kernel), List.mem_of_getElem? (i := 2960) (by decide +kernel), List.mem_of_getElem? (i := 2961) (by decide +kernel)⟩
theorem lw_p252 : lw_okq (⟨"ExchangeHouseModel", "perform", "(II)V"⟩, 190) := ⟨⟨by decide +kernel, by decide +kernel⟩, List.mem_of_getElem? (i := 1843) (by decide +kernel), List.mem_of_getElem? (i := 2964) (by decide +kernel), List.mem_of_getElem? (i := 2965) (by decide +kernel)⟩
theorem lw_p253 : lw_okq (⟨"ExchangeHouseModel", "fail", "(III)V"⟩, 190) := ⟨⟨by decide +kernel, by decide +kernel⟩, List.mem_of_getElem? (i := 1843) (by decide +kernel), List.mem_of_getElem? (i := 2968) (by decide +kernel), List.mem_of_getElem? (i := 2969) (by decide +kernel)⟩
theorem lw_p254 : lw_okq (⟨"ExchangeHouseModel", "stop", "(I)V"⟩, 190) := ⟨⟨by decide +kernel, by decide +kernel⟩, List.mem_of_getElem? (i := 1843) (by decide +kernel), List.mem_of_getElem? (i := 2972) (by decide +kernel), List.mem_of_getElem? (i := 2973) (by decide +kernel)⟩
theorem lw_p255 : lw_okq (⟨"ExchangeHouseModel", "goal", "(II)I"⟩, 190) := ⟨⟨by decide +kernel, by decide +kernel⟩, List.mem_of_getElem? (i := 1843) (by decide +kernel), List.mem_of_getElem? (i := 2976) (by decide +kernel), List.mem_of_getElem? (i := 2977) (by decide +kernel)⟩
def lw_privs_16 : List (MethodName × Nat) := [(⟨"ExchangeHouseModel", "lose", "(III)V"⟩, 190), (⟨"ExchangeHouseModel", "timerComes", "(II)V"⟩, 190), (⟨"ExchangeHouseModel", "ready", "()I"⟩, 190), (⟨"ExchangeHouseModel", "stepOf", "(I)I"⟩, 190), (⟨"ExchangeHouseModel", "listed", "(III)Z"⟩, 190), (⟨"ExchangeHouseModel", "isTrue", "(II)Z"⟩, 190), (⟨"ExchangeHouseModel", "work", "(II)I"⟩, 190), (⟨"ExchangeHouseModel", "formStep", "(III)V"⟩, 190), (⟨"ExchangeHouseModel", "push", "(I)V"⟩, 190), (⟨"ExchangeHouseModel", "isActive", "(II)Z"⟩, 190), (⟨"ExchangeHouseModel", "two", "(III)V"⟩, 190), (⟨"ExchangeHouseModel", "step", "(II)V"⟩, 190), (⟨"ExchangeHouseModel", "perform", "(II)V"⟩, 190), (⟨"ExchangeHouseModel", "fail", "(III)V"⟩, 190), (⟨"ExchangeHouseModel", "stop", "(I)V"⟩, 190), (⟨"ExchangeHouseModel", "goal", "(II)I"⟩, 190)]
theorem lw_r16 : ∀ q ∈ lw_privs_16, lw_okq q := List.forall_mem_cons.mpr ⟨lw_p240, List.forall_mem_cons.mpr ⟨lw_p241, List.forall_mem_cons.mpr ⟨lw_p242, List.forall_mem_cons.mpr ⟨lw_p243, List.forall_mem_cons.mpr ⟨lw_p244, List.forall_mem_cons.mpr ⟨lw_p245, List.forall_mem_cons.mpr ⟨lw_p246, List.forall_mem_cons.mpr ⟨lw_p247, List.forall_mem_cons.mpr ⟨lw_p248, List.forall_mem_cons.mpr ⟨lw_p249, List.forall_mem_cons.mpr ⟨lw_p250, List.forall_mem_cons.mpr ⟨lw_p251, List.forall_mem_cons.mpr ⟨lw_p252, List.forall_mem_cons.mpr ⟨lw_p253, List.forall_mem_cons.mpr ⟨lw_p254, List.forall_mem_cons.mpr ⟨lw_p255, fun _ h => absurd h List.not_mem_nil⟩⟩⟩⟩⟩⟩⟩⟩⟩⟩⟩⟩⟩⟩⟩⟩
theorem lw_p256 : lw_okq (⟨"ExchangeHouseModel", "does", "(II)I"⟩, 190) := ⟨⟨by decide +kernel, by decide +kernel⟩, List.mem_of_getElem? (i := 1843) (by decide +kernel), List.mem_of_getElem? (i := 2980) (by decide +kernel), List.mem_of_getElem? (i := 2981) (by decide +kernel)⟩
theorem lw_p257 : lw_okq (⟨"ExchangeHouseModel", "assigns", "(II)I"⟩, 190) := ⟨⟨by decide +kernel, by decide +kernel⟩, List.mem_of_getElem? (i := 1843) (by decide +kernel), List.mem_of_getElem? (i := 2984) (by decide +kernel), List.mem_of_getElem? (i := 2985) (by decide +kernel)⟩
theorem lw_p258 : lw_okq (⟨"ExchangeHouseModel", "unset", "(II)V"⟩, 190) := ⟨⟨by decide +kernel, by decide +kernel⟩, List.mem_of_getElem? (i := 1843) (by decide +kernel), List.mem_of_getElem? (i := 2988) (by decide +kernel), List.mem_of_getElem? (i := 2989) (by decide +kernel)⟩
theorem lw_p259 : lw_okq (⟨"ExchangeHouseModel", "unqueue", "(II)V"⟩, 190) := ⟨⟨by decide +kernel, by decide +kernel⟩, List.mem_of_getElem? (i := 1843) (by decide +kernel), List.mem_of_getElem? (i := 2992) (by decide +kernel), List.mem_of_getElem? (i := 2993) (by decide +kernel)⟩
theorem lw_p260 : lw_okq (⟨"ExchangeHouseModel", "makes", "(II)I"⟩, 190) := ⟨⟨by decide +kernel, by decide +kernel⟩, List.mem_of_getElem? (i := 1843) (by decide +kernel), List.mem_of_getElem? (i := 2998) (by decide +kernel), List.mem_of_getElem? (i := 2999) (by decide +kernel)⟩
theorem lw_p261 : lw_okq (⟨"ExchangeHouseModel", "workAll", "(II)I"⟩, 190) := ⟨⟨by decide +kernel, by decide +kernel⟩, List.mem_of_getElem? (i := 1843) (by decide +kernel), List.mem_of_getElem? (i := 3002) (by decide +kernel), List.mem_of_getElem? (i := 3003) (by decide +kernel)⟩
theorem lw_p262 : lw_okq (⟨"ExchangeHouseModel", "sends", "(II)I"⟩, 190) := ⟨⟨by decide +kernel, by decide +kernel⟩, List.mem_of_getElem? (i := 1843) (by decide +kernel), List.mem_of_getElem? (i := 3006) (by decide +kernel), List.mem_of_getElem? (i := 3007) (by decide +kernel)⟩
theorem lw_p263 : lw_okq (⟨"ExchangeHouseModel", "route", "(IIIZ)I"⟩, 190) := ⟨⟨by decide +kernel, by decide +kernel⟩, List.mem_of_getElem? (i := 1843) (by decide +kernel), List.mem_of_getElem? (i := 3010) (by decide +kernel), List.mem_of_getElem? (i := 3011) (by decide +kernel)⟩
theorem lw_p264 : lw_okq (⟨"ExchangeHouseModel", "least", "(I)I"⟩, 190) := ⟨⟨by decide +kernel, by decide +kernel⟩, List.mem_of_getElem? (i := 1843) (by decide +kernel), List.mem_of_getElem? (i := 3014) (by decide +kernel), List.mem_of_getElem? (i := 3015) (by decide +kernel)⟩
theorem lw_p265 : lw_okq (⟨"ExchangeHouseModel", "send", "(IIII)V"⟩, 190) := ⟨⟨by decide +kernel, by decide +kernel⟩, List.mem_of_getElem? (i := 1843) (by decide +kernel), List.mem_of_getElem? (i := 3018) (by decide +kernel), List.mem_of_getElem? (i := 3019) (by decide +kernel)⟩
theorem lw_p266 : lw_okq (⟨"ExchangeHouseModel", "timeOn", "(II)I"⟩, 190) := ⟨⟨by decide +kernel, by decide +kernel⟩, List.mem_of_getElem? (i := 1843) (by decide +kernel), List.mem_of_getElem? (i := 3022) (by decide +kernel), List.mem_of_getElem? (i := 3023) (by decide +kernel)⟩
theorem lw_p267 : lw_okq (⟨"ExchangeHouseModel", "leastTime", "()I"⟩, 190) := ⟨⟨by decide +kernel, by decide +kernel⟩, List.mem_of_getElem? (i := 1843) (by decide +kernel), List.mem_of_getElem? (i := 3027) (by decide +kernel), List.mem_of_getElem? (i := 3028) (by decide +kernel)⟩
theorem lw_p268 : lw_okq (⟨"ExchangeHouseModel", "freely", "(II)I"⟩, 190) := ⟨⟨by decide +kernel, by decide +kernel⟩, List.mem_of_getElem? (i := 1843) (by decide +kernel), List.mem_of_getElem? (i := 3039) (by decide +kernel), List.mem_of_getElem? (i := 3040) (by decide +kernel)⟩
theorem lw_p269 : lw_okq (⟨"ExchangeHouseModel", "spontaneous", "(II)V"⟩, 190) := ⟨⟨by decide +kernel, by decide +kernel⟩, List.mem_of_getElem? (i := 1843) (by decide +kernel), List.mem_of_getElem? (i := 3043) (by decide +kernel), List.mem_of_getElem? (i := 3044) (by decide +kernel)⟩
theorem lw_p270 : lw_okq (⟨"ExchangeHouseModel", "slotAsked", "(I)I"⟩, 190) := ⟨⟨by decide +kernel, by decide +kernel⟩, List.mem_of_getElem? (i := 1843) (by decide +kernel), List.mem_of_getElem? (i := 3064) (by decide +kernel), List.mem_of_getElem? (i := 3065) (by decide +kernel)⟩
theorem lw_p271 : lw_okq (⟨"ExchangeHouseModel", "counted", "(I)I"⟩, 190) := ⟨⟨by decide +kernel, by decide +kernel⟩, List.mem_of_getElem? (i := 1843) (by decide +kernel), List.mem_of_getElem? (i := 3096) (by decide +kernel), List.mem_of_getElem? (i := 3097) (by decide +kernel)⟩
def lw_privs_17 : List (MethodName × Nat) := [(⟨"ExchangeHouseModel", "does", "(II)I"⟩, 190), (⟨"ExchangeHouseModel", "assigns", "(II)I"⟩, 190), (⟨"ExchangeHouseModel", "unset", "(II)V"⟩, 190), (⟨"ExchangeHouseModel", "unqueue", "(II)V"⟩, 190), (⟨"ExchangeHouseModel", "makes", "(II)I"⟩, 190), (⟨"ExchangeHouseModel", "workAll", "(II)I"⟩, 190), (⟨"ExchangeHouseModel", "sends", "(II)I"⟩, 190), (⟨"ExchangeHouseModel", "route", "(IIIZ)I"⟩, 190), (⟨"ExchangeHouseModel", "least", "(I)I"⟩, 190), (⟨"ExchangeHouseModel", "send", "(IIII)V"⟩, 190), (⟨"ExchangeHouseModel", "timeOn", "(II)I"⟩, 190), (⟨"ExchangeHouseModel", "leastTime", "()I"⟩, 190), (⟨"ExchangeHouseModel", "freely", "(II)I"⟩, 190), (⟨"ExchangeHouseModel", "spontaneous", "(II)V"⟩, 190), (⟨"ExchangeHouseModel", "slotAsked", "(I)I"⟩, 190), (⟨"ExchangeHouseModel", "counted", "(I)I"⟩, 190)]
theorem lw_r17 : ∀ q ∈ lw_privs_17, lw_okq q := List.forall_mem_cons.mpr ⟨lw_p256, List.forall_mem_cons.mpr ⟨lw_p257, List.forall_mem_cons.mpr ⟨lw_p258, List.forall_mem_cons.mpr ⟨lw_p259, List.forall_mem_cons.mpr ⟨lw_p260, List.forall_mem_cons.mpr ⟨lw_p261, List.forall_mem_cons.mpr ⟨lw_p262, List.forall_mem_cons.mpr ⟨lw_p263, List.forall_mem_cons.mpr ⟨lw_p264, List.forall_mem_cons.mpr ⟨lw_p265, List.forall_mem_cons.mpr ⟨lw_p266, List.forall_mem_cons.mpr ⟨lw_p267, List.forall_mem_cons.mpr ⟨lw_p268, List.forall_mem_cons.mpr ⟨lw_p269, List.forall_mem_cons.mpr ⟨lw_p270, List.forall_mem_cons.mpr ⟨lw_p271, fun _ h => absurd h List.not_mem_nil⟩⟩⟩⟩⟩⟩⟩⟩⟩⟩⟩⟩⟩⟩⟩⟩
theorem lw_p272 : lw_okq (⟨"ExchangeHouseModel", "plain", "()V"⟩, 190) := ⟨⟨by decide +kernel, by decide +kernel⟩, List.mem_of_getElem? (i := 1843) (by decide +kernel), List.mem_of_getElem? (i := 3108) (by decide +kernel), List.mem_of_getElem? (i := 3109) (by decide +kernel)⟩
theorem lw_p273 : lw_okq (⟨"ExchangeHouseModel", "sum", "()I"⟩, 190) := ⟨⟨by decide +kernel, by decide +kernel⟩, List.mem_of_getElem? (i := 1843) (by decide +kernel), List.mem_of_getElem? (i := 3112) (by decide +kernel), List.mem_of_getElem? (i := 3113) (by decide +kernel)⟩
theorem lw_p274 : lw_okq (⟨"ExchangeHouseModel", "keep", "(III)V"⟩, 190) := ⟨⟨by decide +kernel, by decide +kernel⟩, List.mem_of_getElem? (i := 1843) (by decide +kernel), List.mem_of_getElem? (i := 3116) (by decide +kernel), List.mem_of_getElem? (i := 3117) (by decide +kernel)⟩
theorem lw_p275 : lw_okq (⟨"ExchangeHouseModel", "stepsOf", "(I)V"⟩, 190) := ⟨⟨by decide +kernel, by decide +kernel⟩, List.mem_of_getElem? (i := 1843) (by decide +kernel), List.mem_of_getElem? (i := 3120) (by decide +kernel), List.mem_of_getElem? (i := 3121) (by decide +kernel)⟩
theorem lw_p276 : lw_okq (⟨"ExchangeHouseModel", "tries", "(I)V"⟩, 190) := ⟨⟨by decide +kernel, by decide +kernel⟩, List.mem_of_getElem? (i := 1843) (by decide +kernel), List.mem_of_getElem? (i := 3124) (by decide +kernel), List.mem_of_getElem? (i := 3125) (by decide +kernel)⟩
theorem lw_p277 : lw_okq (⟨"ExchangeHouseModel", "load1", "(I)V"⟩, 190) := ⟨⟨by decide +kernel, by decide +kernel⟩, List.mem_of_getElem? (i := 1843) (by decide +kernel), List.mem_of_getElem? (i := 3128) (by decide +kernel), List.mem_of_getElem? (i := 3129) (by decide +kernel)⟩
theorem lw_p278 : lw_okq (⟨"ExchangeHouseModel", "moved", "(I)V"⟩, 190) := ⟨⟨by decide +kernel, by decide +kernel⟩, List.mem_of_getElem? (i := 1843) (by decide +kernel), List.mem_of_getElem? (i := 3132) (by decide +kernel), List.mem_of_getElem? (i := 3133) (by decide +kernel)⟩
theorem lw_p279 : lw_okq (⟨"ExchangeHouseModel", "isState", "(II)Z"⟩, 190) := ⟨⟨by decide +kernel, by decide +kernel⟩, List.mem_of_getElem? (i := 1843) (by decide +kernel), List.mem_of_getElem? (i := 3136) (by decide +kernel), List.mem_of_getElem? (i := 3137) (by decide +kernel)⟩
theorem lw_p280 : lw_okq (⟨"ExchangeHouseModel", "arrivalsOf", "(I)V"⟩, 190) := ⟨⟨by decide +kernel, by decide +kernel⟩, List.mem_of_getElem? (i := 1843) (by decide +kernel), List.mem_of_getElem? (i := 3140) (by decide +kernel), List.mem_of_getElem? (i := 3141) (by decide +kernel)⟩
theorem lw_p281 : lw_okq (⟨"ExchangeHouseModel", "timersOf", "(I)V"⟩, 190) := ⟨⟨by decide +kernel, by decide +kernel⟩, List.mem_of_getElem? (i := 1843) (by decide +kernel), List.mem_of_getElem? (i := 3144) (by decide +kernel), List.mem_of_getElem? (i := 3145) (by decide +kernel)⟩
theorem lw_p282 : lw_okq (⟨"ExchangeHouseModel", "freeOf", "(I)V"⟩, 190) := ⟨⟨by decide +kernel, by decide +kernel⟩, List.mem_of_getElem? (i := 1843) (by decide +kernel), List.mem_of_getElem? (i := 3148) (by decide +kernel), List.mem_of_getElem? (i := 3149) (by decide +kernel)⟩
theorem lw_p283 : lw_okq (⟨"ExchangeHouseModel", "waitsAny", "(I)Z"⟩, 190) := ⟨⟨by decide +kernel, by decide +kernel⟩, List.mem_of_getElem? (i := 1843) (by decide +kernel), List.mem_of_getElem? (i := 3160) (by decide +kernel), List.mem_of_getElem? (i := 3161) (by decide +kernel)⟩
theorem lw_p284 : lw_okq (⟨"ExchangeHouseModel", "isIn", "(III)Z"⟩, 190) := ⟨⟨by decide +kernel, by decide +kernel⟩, List.mem_of_getElem? (i := 1843) (by decide +kernel), List.mem_of_getElem? (i := 3164) (by decide +kernel), List.mem_of_getElem? (i := 3165) (by decide +kernel)⟩
theorem lw_p285 : lw_okq (⟨"ExchangeHouseModel", "chartText", "()V"⟩, 190) := ⟨⟨by decide +kernel, by decide +kernel⟩, List.mem_of_getElem? (i := 1843) (by decide +kernel), List.mem_of_getElem? (i := 3176) (by decide +kernel), List.mem_of_getElem? (i := 3177) (by decide +kernel)⟩
theorem lw_p286 : lw_okq (⟨"ExchangeHouseModel", "inst", "()V"⟩, 190) := ⟨⟨by decide +kernel, by decide +kernel⟩, List.mem_of_getElem? (i := 1843) (by decide +kernel), List.mem_of_getElem? (i := 3180) (by decide +kernel), List.mem_of_getElem? (i := 3181) (by decide +kernel)⟩
theorem lw_p287 : lw_okq (⟨"ExchangeHouseModel", "instOf", "(J)I"⟩, 190) := ⟨⟨by decide +kernel, by decide +kernel⟩, List.mem_of_getElem? (i := 1843) (by decide +kernel), List.mem_of_getElem? (i := 3184) (by decide +kernel), List.mem_of_getElem? (i := 3185) (by decide +kernel)⟩
def lw_privs_18 : List (MethodName × Nat) := [(⟨"ExchangeHouseModel", "plain", "()V"⟩, 190), (⟨"ExchangeHouseModel", "sum", "()I"⟩, 190), (⟨"ExchangeHouseModel", "keep", "(III)V"⟩, 190), (⟨"ExchangeHouseModel", "stepsOf", "(I)V"⟩, 190), (⟨"ExchangeHouseModel", "tries", "(I)V"⟩, 190), (⟨"ExchangeHouseModel", "load1", "(I)V"⟩, 190), (⟨"ExchangeHouseModel", "moved", "(I)V"⟩, 190), (⟨"ExchangeHouseModel", "isState", "(II)Z"⟩, 190), (⟨"ExchangeHouseModel", "arrivalsOf", "(I)V"⟩, 190), (⟨"ExchangeHouseModel", "timersOf", "(I)V"⟩, 190), (⟨"ExchangeHouseModel", "freeOf", "(I)V"⟩, 190), (⟨"ExchangeHouseModel", "waitsAny", "(I)Z"⟩, 190), (⟨"ExchangeHouseModel", "isIn", "(III)Z"⟩, 190), (⟨"ExchangeHouseModel", "chartText", "()V"⟩, 190), (⟨"ExchangeHouseModel", "inst", "()V"⟩, 190), (⟨"ExchangeHouseModel", "instOf", "(J)I"⟩, 190)]
theorem lw_r18 : ∀ q ∈ lw_privs_18, lw_okq q := List.forall_mem_cons.mpr ⟨lw_p272, List.forall_mem_cons.mpr ⟨lw_p273, List.forall_mem_cons.mpr ⟨lw_p274, List.forall_mem_cons.mpr ⟨lw_p275, List.forall_mem_cons.mpr ⟨lw_p276, List.forall_mem_cons.mpr ⟨lw_p277, List.forall_mem_cons.mpr ⟨lw_p278, List.forall_mem_cons.mpr ⟨lw_p279, List.forall_mem_cons.mpr ⟨lw_p280, List.forall_mem_cons.mpr ⟨lw_p281, List.forall_mem_cons.mpr ⟨lw_p282, List.forall_mem_cons.mpr ⟨lw_p283, List.forall_mem_cons.mpr ⟨lw_p284, List.forall_mem_cons.mpr ⟨lw_p285, List.forall_mem_cons.mpr ⟨lw_p286, List.forall_mem_cons.mpr ⟨lw_p287, fun _ h => absurd h List.not_mem_nil⟩⟩⟩⟩⟩⟩⟩⟩⟩⟩⟩⟩⟩⟩⟩⟩
theorem lw_p288 : lw_okq (⟨"ExchangeHouseModel", "line", "()V"⟩, 190) := ⟨⟨by decide +kernel, by decide +kernel⟩, List.mem_of_getElem? (i := 1843) (by decide +kernel), List.mem_of_getElem? (i := 3188) (by decide +kernel), List.mem_of_getElem? (i := 3189) (by decide +kernel)⟩
theorem lw_p289 : lw_okq (⟨"ExchangeHouseModel", "party", "()I"⟩, 190) := ⟨⟨by decide +kernel, by decide +kernel⟩, List.mem_of_getElem? (i := 1843) (by decide +kernel), List.mem_of_getElem? (i := 3192) (by decide +kernel), List.mem_of_getElem? (i := 3193) (by decide +kernel)⟩
theorem lw_p290 : lw_okq (⟨"ExchangeHouseModel", "block", "()V"⟩, 190) := ⟨⟨by decide +kernel, by decide +kernel⟩, List.mem_of_getElem? (i := 1843) (by decide +kernel), List.mem_of_getElem? (i := 3196) (by decide +kernel), List.mem_of_getElem? (i := 3197) (by decide +kernel)⟩
theorem lw_p291 : lw_okq (⟨"ExchangeHouseModel", "orRow", "()V"⟩, 190) := ⟨⟨by decide +kernel, by decide +kernel⟩, List.mem_of_getElem? (i := 1843) (by decide +kernel), List.mem_of_getElem? (i := 3200) (by decide +kernel), List.mem_of_getElem? (i := 3201) (by decide +kernel)⟩
theorem lw_p292 : lw_okq (⟨"ExchangeHouseModel", "judge", "()V"⟩, 190) := ⟨⟨by decide +kernel, by decide +kernel⟩, List.mem_of_getElem? (i := 1843) (by decide +kernel), List.mem_of_getElem? (i := 3204) (by decide +kernel), List.mem_of_getElem? (i := 3205) (by decide +kernel)⟩
theorem lw_p293 : lw_okq (⟨"ExchangeHouseModel", "allKeep", "()Z"⟩, 190) := ⟨⟨by decide +kernel, by decide +kernel⟩, List.mem_of_getElem? (i := 1843) (by decide +kernel), List.mem_of_getElem? (i := 3208) (by decide +kernel), List.mem_of_getElem? (i := 3209) (by decide +kernel)⟩
theorem lw_p294 : lw_okq (⟨"ExchangeHouseModel", "keeps", "(I)Z"⟩, 190) := ⟨⟨by decide +kernel, by decide +kernel⟩, List.mem_of_getElem? (i := 1843) (by decide +kernel), List.mem_of_getElem? (i := 3212) (by decide +kernel), List.mem_of_getElem? (i := 3213) (by decide +kernel)⟩
theorem lw_p295 : lw_okq (⟨"ExchangeHouseModel", "isChosen", "(I)Z"⟩, 190) := ⟨⟨by decide +kernel, by decide +kernel⟩, List.mem_of_getElem? (i := 1843) (by decide +kernel), List.mem_of_getElem? (i := 3216) (by decide +kernel), List.mem_of_getElem? (i := 3217) (by decide +kernel)⟩
theorem lw_p296 : lw_okq (⟨"ExchangeHouseModel", "isNext", "(IIII)Z"⟩, 190) := ⟨⟨by decide +kernel, by decide +kernel⟩, List.mem_of_getElem? (i := 1843) (by decide +kernel), List.mem_of_getElem? (i := 3220) (by decide +kernel), List.mem_of_getElem? (i := 3221) (by decide +kernel)⟩
theorem lw_p297 : lw_okq (⟨"ExchangeHouseModel", "nextEvent", "(II)I"⟩, 190) := ⟨⟨by decide +kernel, by decide +kernel⟩, List.mem_of_getElem? (i := 1843) (by decide +kernel), List.mem_of_getElem? (i := 3224) (by decide +kernel), List.mem_of_getElem? (i := 3225) (by decide +kernel)⟩
theorem lw_p298 : lw_okq (⟨"ExchangeHouseModel", "isNamed", "(I)Z"⟩, 190) := ⟨⟨by decide +kernel, by decide +kernel⟩, List.mem_of_getElem? (i := 1843) (by decide +kernel), List.mem_of_getElem? (i := 3228) (by decide +kernel), List.mem_of_getElem? (i := 3229) (by decide +kernel)⟩
theorem lw_p299 : lw_okq (⟨"ExchangeHouseModel", "changes", "()Z"⟩, 190) := ⟨⟨by decide +kernel, by decide +kernel⟩, List.mem_of_getElem? (i := 1843) (by decide +kernel), List.mem_of_getElem? (i := 3232) (by decide +kernel), List.mem_of_getElem? (i := 3233) (by decide +kernel)⟩
def lw_privs_19 : List (MethodName × Nat) := [(⟨"ExchangeHouseModel", "line", "()V"⟩, 190), (⟨"ExchangeHouseModel", "party", "()I"⟩, 190), (⟨"ExchangeHouseModel", "block", "()V"⟩, 190), (⟨"ExchangeHouseModel", "orRow", "()V"⟩, 190), (⟨"ExchangeHouseModel", "judge", "()V"⟩, 190), (⟨"ExchangeHouseModel", "allKeep", "()Z"⟩, 190), (⟨"ExchangeHouseModel", "keeps", "(I)Z"⟩, 190), (⟨"ExchangeHouseModel", "isChosen", "(I)Z"⟩, 190), (⟨"ExchangeHouseModel", "isNext", "(IIII)Z"⟩, 190), (⟨"ExchangeHouseModel", "nextEvent", "(II)I"⟩, 190), (⟨"ExchangeHouseModel", "isNamed", "(I)Z"⟩, 190), (⟨"ExchangeHouseModel", "changes", "()Z"⟩, 190)]
theorem lw_r19 : ∀ q ∈ lw_privs_19, lw_okq q := List.forall_mem_cons.mpr ⟨lw_p288, List.forall_mem_cons.mpr ⟨lw_p289, List.forall_mem_cons.mpr ⟨lw_p290, List.forall_mem_cons.mpr ⟨lw_p291, List.forall_mem_cons.mpr ⟨lw_p292, List.forall_mem_cons.mpr ⟨lw_p293, List.forall_mem_cons.mpr ⟨lw_p294, List.forall_mem_cons.mpr ⟨lw_p295, List.forall_mem_cons.mpr ⟨lw_p296, List.forall_mem_cons.mpr ⟨lw_p297, List.forall_mem_cons.mpr ⟨lw_p298, List.forall_mem_cons.mpr ⟨lw_p299, fun _ h => absurd h List.not_mem_nil⟩⟩⟩⟩⟩⟩⟩⟩⟩⟩⟩⟩
def lw_privs : List (MethodName × Nat) := lw_privs_1 ++ (lw_privs_2 ++ (lw_privs_3 ++ (lw_privs_4 ++ (lw_privs_5 ++ (lw_privs_6 ++ (lw_privs_7 ++ (lw_privs_8 ++ (lw_privs_9 ++ (lw_privs_10 ++ (lw_privs_11 ++ (lw_privs_12 ++ (lw_privs_13 ++ (lw_privs_14 ++ (lw_privs_15 ++ (lw_privs_16 ++ (lw_privs_17 ++ (lw_privs_18 ++ (lw_privs_19))))))))))))))))))
def lw_tbl : List Cond := k2_sels lw_privs ++ tables_1
theorem lw_privs_ok : ∀ q ∈ lw_privs, lw_okq q := by
  show ∀ q ∈ lw_privs_1 ++ (lw_privs_2 ++ (lw_privs_3 ++ (lw_privs_4 ++ (lw_privs_5 ++ (lw_privs_6 ++ (lw_privs_7 ++ (lw_privs_8 ++ (lw_privs_9 ++ (lw_privs_10 ++ (lw_privs_11 ++ (lw_privs_12 ++ (lw_privs_13 ++ (lw_privs_14 ++ (lw_privs_15 ++ (lw_privs_16 ++ (lw_privs_17 ++ (lw_privs_18 ++ (lw_privs_19)))))))))))))))))), lw_okq q
  exact List.forall_mem_append.mpr ⟨lw_r1, List.forall_mem_append.mpr ⟨lw_r2, List.forall_mem_append.mpr ⟨lw_r3, List.forall_mem_append.mpr ⟨lw_r4, List.forall_mem_append.mpr ⟨lw_r5, List.forall_mem_append.mpr ⟨lw_r6, List.forall_mem_append.mpr ⟨lw_r7, List.forall_mem_append.mpr ⟨lw_r8, List.forall_mem_append.mpr ⟨lw_r9, List.forall_mem_append.mpr ⟨lw_r10, List.forall_mem_append.mpr ⟨lw_r11, List.forall_mem_append.mpr ⟨lw_r12, List.forall_mem_append.mpr ⟨lw_r13, List.forall_mem_append.mpr ⟨lw_r14, List.forall_mem_append.mpr ⟨lw_r15, List.forall_mem_append.mpr ⟨lw_r16, List.forall_mem_append.mpr ⟨lw_r17, List.forall_mem_append.mpr ⟨lw_r18, lw_r19⟩⟩⟩⟩⟩⟩⟩⟩⟩⟩⟩⟩⟩⟩⟩⟩⟩⟩
end
section
/-! names: the classes, their fields, their methods (printed texts, renamed by program) -/
def RJu : String := "ExchangeHouse$Judge"
def TJu : u_T := fun k => match k with
  | 0 => ("ExchangeHouse$Judge", "tokens", "LExchangeHouse$Tokens;", true)
  | 1 => ("ExchangeHouse$Judge", "plan", "LExchangeHouse$Plan;", false)
  | 2 => ("ExchangeHouse$Judge", "kind", "LExchangeHouse$Kind;", false)
  | 3 => ("ExchangeHouse$Judge", "type", "I", false)
  | 4 => ("ExchangeHouse$Judge", "sorts", "[I", true)
  | 5 => ("ExchangeHouse$Judge", "firsts", "[I", true)
  | 6 => ("ExchangeHouse$Judge", "top", "I", false)
  | 7 => ("ExchangeHouse$Judge", "decides", "[I", true)
  | 8 => ("ExchangeHouse$Judge", "depth", "I", false)
  | _ => ("ExchangeHouse$Judge", "given", "I", false)
def tyJu : Nat → FieldType := fun k => match k with
  | 0 => .object "ExchangeHouse$Tokens"
  | 1 => .object "ExchangeHouse$Plan"
  | 2 => .object "ExchangeHouse$Kind"
  | 3 => .int
  | 4 => .array .int
  | 5 => .array .int
  | 6 => .int
  | 7 => .array .int
  | 8 => .int
  | _ => .int
theorem nmJu : ∀ a, a < 10 → ∀ b, b < 10 → a ≠ b → (TJu a).2.1 ≠ (TJu b).2.1 := by decide +kernel
theorem tyJu_ok : ∀ k, k < 10 → parseFieldDescriptor (TJu k).2.2.1 = some (tyJu k) := by decide +kernel
def RKd : String := "ExchangeHouse$Kind"
def TKd : u_T := fun k => match k with
  | 0 => ("ExchangeHouse$Kind", "variables", "LExchangeHouse$Names;", true)
  | 1 => ("ExchangeHouse$Kind", "timers", "LExchangeHouse$Names;", true)
  | 2 => ("ExchangeHouse$Kind", "states", "LExchangeHouse$Names;", true)
  | 3 => ("ExchangeHouse$Kind", "labels", "LExchangeHouse$Names;", true)
  | 4 => ("ExchangeHouse$Kind", "sort", "[I", true)
  | 5 => ("ExchangeHouse$Kind", "length", "[I", true)
  | 6 => ("ExchangeHouse$Kind", "cell", "[I", true)
  | 7 => ("ExchangeHouse$Kind", "labelAt", "[I", true)
  | 8 => ("ExchangeHouse$Kind", "pars", "I", false)
  | 9 => ("ExchangeHouse$Kind", "cells", "I", false)
  | 10 => ("ExchangeHouse$Kind", "least", "I", false)
  | 11 => ("ExchangeHouse$Kind", "most", "I", false)
  | 12 => ("ExchangeHouse$Kind", "entry", "I", false)
  | 13 => ("ExchangeHouse$Kind", "rowFrom", "I", false)
  | 14 => ("ExchangeHouse$Kind", "rowTo", "I", false)
  | 15 => ("ExchangeHouse$Kind", "codeFrom", "I", false)
  | _ => ("ExchangeHouse$Kind", "codeTo", "I", false)
def tyKd : Nat → FieldType := fun k => match k with
  | 0 => .object "ExchangeHouse$Names"
  | 1 => .object "ExchangeHouse$Names"
  | 2 => .object "ExchangeHouse$Names"
  | 3 => .object "ExchangeHouse$Names"
  | 4 => .array .int
  | 5 => .array .int
  | 6 => .array .int
  | 7 => .array .int
  | 8 => .int
  | 9 => .int
  | 10 => .int
  | 11 => .int
  | 12 => .int
  | 13 => .int
  | 14 => .int
  | 15 => .int
  | _ => .int
theorem nmKd : ∀ a, a < 17 → ∀ b, b < 17 → a ≠ b → (TKd a).2.1 ≠ (TKd b).2.1 := by decide +kernel
theorem tyKd_ok : ∀ k, k < 17 → parseFieldDescriptor (TKd k).2.2.1 = some (tyKd k) := by decide +kernel
def RLo : String := "ExchangeHouse$Log"
def TLo : u_T := fun k => match k with
  | 0 => ("ExchangeHouse$Log", "quiet", "Z", true)
  | 1 => ("ExchangeHouse$Log", "events", "[I", true)
  | 2 => ("ExchangeHouse$Log", "eventFrom", "I", false)
  | 3 => ("ExchangeHouse$Log", "eventSize", "I", false)
  | 4 => ("ExchangeHouse$Log", "outs", "[I", true)
  | 5 => ("ExchangeHouse$Log", "outFrom", "I", false)
  | 6 => ("ExchangeHouse$Log", "outSize", "I", false)
  | 7 => ("ExchangeHouse$Log", "made", "I", false)
  | 8 => ("ExchangeHouse$Log", "lost", "I", false)
  | 9 => ("ExchangeHouse$Log", "errors", "I", false)
  | 10 => ("ExchangeHouse$Log", "error", "I", false)
  | 11 => ("ExchangeHouse$Log", "errorPlace", "I", false)
  | 12 => ("ExchangeHouse$Log", "steps", "I", false)
  | _ => ("ExchangeHouse$Log", "outCount", "I", false)
def tyLo : Nat → FieldType := fun k => match k with
  | 0 => .boolean
  | 1 => .array .int
  | 2 => .int
  | 3 => .int
  | 4 => .array .int
  | 5 => .int
  | 6 => .int
  | 7 => .int
  | 8 => .int
  | 9 => .int
  | 10 => .int
  | 11 => .int
  | 12 => .int
  | _ => .int
theorem nmLo : ∀ a, a < 14 → ∀ b, b < 14 → a ≠ b → (TLo a).2.1 ≠ (TLo b).2.1 := by decide +kernel
theorem tyLo_ok : ∀ k, k < 14 → parseFieldDescriptor (TLo k).2.2.1 = some (tyLo k) := by decide +kernel
def RNa : String := "ExchangeHouse$Names"
def TNa : u_T := fun k => match k with
  | 0 => ("ExchangeHouse$Names", "name", "[J", true)
  | 1 => ("ExchangeHouse$Names", "place", "[I", true)
  | _ => ("ExchangeHouse$Names", "size", "I", false)
def tyNa : Nat → FieldType := fun k => match k with
  | 0 => .array .long
  | 1 => .array .int
  | _ => .int
theorem nmNa : ∀ a, a < 3 → ∀ b, b < 3 → a ≠ b → (TNa a).2.1 ≠ (TNa b).2.1 := by decide +kernel
theorem tyNa_ok : ∀ k, k < 3 → parseFieldDescriptor (TNa k).2.2.1 = some (tyNa k) := by decide +kernel
def RNe : String := "ExchangeHouse$Net"
def TNe : u_T := fun k => match k with
  | 0 => ("ExchangeHouse$Net", "pid", "[I", true)
  | 1 => ("ExchangeHouse$Net", "kind", "[I", true)
  | 2 => ("ExchangeHouse$Net", "at", "[I", true)
  | 3 => ("ExchangeHouse$Net", "sender", "[I", true)
  | 4 => ("ExchangeHouse$Net", "parent", "[I", true)
  | 5 => ("ExchangeHouse$Net", "offspring", "[I", true)
  | 6 => ("ExchangeHouse$Net", "queued", "[I", true)
  | 7 => ("ExchangeHouse$Net", "cells", "[I", true)
  | 8 => ("ExchangeHouse$Net", "timers", "[I", true)
  | 9 => ("ExchangeHouse$Net", "queue", "[I", true)
  | 10 => ("ExchangeHouse$Net", "rowSize", "[I", true)
  | 11 => ("ExchangeHouse$Net", "rows", "[I", true)
  | 12 => ("ExchangeHouse$Net", "alive", "I", false)
  | 13 => ("ExchangeHouse$Net", "nextPid", "I", false)
  | 14 => ("ExchangeHouse$Net", "now", "I", false)
  | 15 => ("ExchangeHouse$Net", "seed", "I", false)
  | _ => ("ExchangeHouse$Net", "last", "I", false)
def tyNe : Nat → FieldType := fun k => match k with
  | 0 => .array .int
  | 1 => .array .int
  | 2 => .array .int
  | 3 => .array .int
  | 4 => .array .int
  | 5 => .array .int
  | 6 => .array .int
  | 7 => .array .int
  | 8 => .array .int
  | 9 => .array .int
  | 10 => .array .int
  | 11 => .array .int
  | 12 => .int
  | 13 => .int
  | 14 => .int
  | 15 => .int
  | _ => .int
theorem nmNe : ∀ a, a < 17 → ∀ b, b < 17 → a ≠ b → (TNe a).2.1 ≠ (TNe b).2.1 := by decide +kernel
theorem tyNe_ok : ∀ k, k < 17 → parseFieldDescriptor (TNe k).2.2.1 = some (tyNe k) := by decide +kernel
def RPa : String := "ExchangeHouse$Parser"
def TPa : u_T := fun k => match k with
  | 0 => ("ExchangeHouse$Parser", "tokens", "LExchangeHouse$Tokens;", true)
  | 1 => ("ExchangeHouse$Parser", "plan", "LExchangeHouse$Plan;", false)
  | 2 => ("ExchangeHouse$Parser", "kind", "LExchangeHouse$Kind;", false)
  | 3 => ("ExchangeHouse$Parser", "where", "I", false)
  | 4 => ("ExchangeHouse$Parser", "mask", "I", false)
  | _ => ("ExchangeHouse$Parser", "ranges", "I", false)
def tyPa : Nat → FieldType := fun k => match k with
  | 0 => .object "ExchangeHouse$Tokens"
  | 1 => .object "ExchangeHouse$Plan"
  | 2 => .object "ExchangeHouse$Kind"
  | 3 => .int
  | 4 => .int
  | _ => .int
theorem nmPa : ∀ a, a < 6 → ∀ b, b < 6 → a ≠ b → (TPa a).2.1 ≠ (TPa b).2.1 := by decide +kernel
theorem tyPa_ok : ∀ k, k < 6 → parseFieldDescriptor (TPa k).2.2.1 = some (tyPa k) := by decide +kernel
def RPl : String := "ExchangeHouse$Plan"
def TPl : u_T := fun k => match k with
  | 0 => ("ExchangeHouse$Plan", "signals", "LExchangeHouse$Names;", true)
  | 1 => ("ExchangeHouse$Plan", "routes", "LExchangeHouse$Names;", true)
  | 2 => ("ExchangeHouse$Plan", "types", "LExchangeHouse$Names;", true)
  | 3 => ("ExchangeHouse$Plan", "kinds", "[LExchangeHouse$Kind;", true)
  | 4 => ("ExchangeHouse$Plan", "sorts", "[I", true)
  | 5 => ("ExchangeHouse$Plan", "from", "[I", true)
  | 6 => ("ExchangeHouse$Plan", "to", "[I", true)
  | 7 => ("ExchangeHouse$Plan", "carries", "[I", true)
  | 8 => ("ExchangeHouse$Plan", "low", "[I", true)
  | 9 => ("ExchangeHouse$Plan", "high", "[I", true)
  | 10 => ("ExchangeHouse$Plan", "op", "[I", true)
  | 11 => ("ExchangeHouse$Plan", "arg", "[I", true)
  | 12 => ("ExchangeHouse$Plan", "aux", "[I", true)
  | 13 => ("ExchangeHouse$Plan", "tok", "[I", true)
  | 14 => ("ExchangeHouse$Plan", "size", "I", false)
  | 15 => ("ExchangeHouse$Plan", "rows", "[I", true)
  | 16 => ("ExchangeHouse$Plan", "rowCount", "I", false)
  | 17 => ("ExchangeHouse$Plan", "table", "[I", true)
  | 18 => ("ExchangeHouse$Plan", "warnings", "[I", true)
  | _ => ("ExchangeHouse$Plan", "warningCount", "I", false)
def tyPl : Nat → FieldType := fun k => match k with
  | 0 => .object "ExchangeHouse$Names"
  | 1 => .object "ExchangeHouse$Names"
  | 2 => .object "ExchangeHouse$Names"
  | 3 => .array (.object "ExchangeHouse$Kind")
  | 4 => .array .int
  | 5 => .array .int
  | 6 => .array .int
  | 7 => .array .int
  | 8 => .array .int
  | 9 => .array .int
  | 10 => .array .int
  | 11 => .array .int
  | 12 => .array .int
  | 13 => .array .int
  | 14 => .int
  | 15 => .array .int
  | 16 => .int
  | 17 => .array .int
  | 18 => .array .int
  | _ => .int
theorem nmPl : ∀ a, a < 20 → ∀ b, b < 20 → a ≠ b → (TPl a).2.1 ≠ (TPl b).2.1 := by decide +kernel
theorem tyPl_ok : ∀ k, k < 20 → parseFieldDescriptor (TPl k).2.2.1 = some (tyPl k) := by decide +kernel
def RRu : String := "ExchangeHouse$Runner"
def TRu : u_T := fun k => match k with
  | 0 => ("ExchangeHouse$Runner", "net", "LExchangeHouse$Net;", true)
  | 1 => ("ExchangeHouse$Runner", "log", "LExchangeHouse$Log;", true)
  | 2 => ("ExchangeHouse$Runner", "plan", "LExchangeHouse$Plan;", false)
  | 3 => ("ExchangeHouse$Runner", "stack", "[I", true)
  | 4 => ("ExchangeHouse$Runner", "top", "I", false)
  | 5 => ("ExchangeHouse$Runner", "error", "I", false)
  | 6 => ("ExchangeHouse$Runner", "acts", "I", false)
  | 7 => ("ExchangeHouse$Runner", "place", "I", false)
  | 8 => ("ExchangeHouse$Runner", "decided", "I", false)
  | 9 => ("ExchangeHouse$Runner", "matched", "Z", false)
  | 10 => ("ExchangeHouse$Runner", "message", "[I", true)
  | 11 => ("ExchangeHouse$Runner", "outgoing", "I", false)
  | 12 => ("ExchangeHouse$Runner", "pickedSignal", "I", false)
  | 13 => ("ExchangeHouse$Runner", "pickedRow", "I", false)
  | 14 => ("ExchangeHouse$Runner", "pickedStep", "I", false)
  | _ => ("ExchangeHouse$Runner", "searching", "Z", false)
def tyRu : Nat → FieldType := fun k => match k with
  | 0 => .object "ExchangeHouse$Net"
  | 1 => .object "ExchangeHouse$Log"
  | 2 => .object "ExchangeHouse$Plan"
  | 3 => .array .int
  | 4 => .int
  | 5 => .int
  | 6 => .int
  | 7 => .int
  | 8 => .int
  | 9 => .boolean
  | 10 => .array .int
  | 11 => .int
  | 12 => .int
  | 13 => .int
  | 14 => .int
  | _ => .boolean
theorem nmRu : ∀ a, a < 16 → ∀ b, b < 16 → a ≠ b → (TRu a).2.1 ≠ (TRu b).2.1 := by decide +kernel
theorem tyRu_ok : ∀ k, k < 16 → parseFieldDescriptor (TRu k).2.2.1 = some (tyRu k) := by decide +kernel
def RSe : String := "ExchangeHouse$Seeker"
def TSe : u_T := fun k => match k with
  | 0 => ("ExchangeHouse$Seeker", "runner", "LExchangeHouse$Runner;", true)
  | 1 => ("ExchangeHouse$Seeker", "plan", "LExchangeHouse$Plan;", false)
  | 2 => ("ExchangeHouse$Seeker", "from", "[I", true)
  | 3 => ("ExchangeHouse$Seeker", "move", "[I", true)
  | 4 => ("ExchangeHouse$Seeker", "depth", "[I", true)
  | 5 => ("ExchangeHouse$Seeker", "moves", "[I", true)
  | 6 => ("ExchangeHouse$Seeker", "lost", "[I", true)
  | 7 => ("ExchangeHouse$Seeker", "errors", "[I", true)
  | 8 => ("ExchangeHouse$Seeker", "hash", "[I", true)
  | 9 => ("ExchangeHouse$Seeker", "begins", "[I", true)
  | 10 => ("ExchangeHouse$Seeker", "pool", "[I", false)
  | 11 => ("ExchangeHouse$Seeker", "found", "I", false)
  | 12 => ("ExchangeHouse$Seeker", "limit", "I", false)
  | 13 => ("ExchangeHouse$Seeker", "looked", "I", false)
  | 14 => ("ExchangeHouse$Seeker", "cut", "Z", false)
  | 15 => ("ExchangeHouse$Seeker", "movesHere", "I", false)
  | 16 => ("ExchangeHouse$Seeker", "lostHere", "I", false)
  | _ => ("ExchangeHouse$Seeker", "errorsHere", "I", false)
def tySe : Nat → FieldType := fun k => match k with
  | 0 => .object "ExchangeHouse$Runner"
  | 1 => .object "ExchangeHouse$Plan"
  | 2 => .array .int
  | 3 => .array .int
  | 4 => .array .int
  | 5 => .array .int
  | 6 => .array .int
  | 7 => .array .int
  | 8 => .array .int
  | 9 => .array .int
  | 10 => .array .int
  | 11 => .int
  | 12 => .int
  | 13 => .int
  | 14 => .boolean
  | 15 => .int
  | 16 => .int
  | _ => .int
theorem nmSe : ∀ a, a < 18 → ∀ b, b < 18 → a ≠ b → (TSe a).2.1 ≠ (TSe b).2.1 := by decide +kernel
theorem tySe_ok : ∀ k, k < 18 → parseFieldDescriptor (TSe k).2.2.1 = some (tySe k) := by decide +kernel
def RSh : String := "ExchangeHouse$Sheet"
def TSh : u_T := fun k => match k with
  | 0 => ("ExchangeHouse$Sheet", "tokens", "LExchangeHouse$Tokens;", true)
  | 1 => ("ExchangeHouse$Sheet", "insts", "LExchangeHouse$Names;", true)
  | 2 => ("ExchangeHouse$Sheet", "number", "[I", true)
  | 3 => ("ExchangeHouse$Sheet", "left", "[I", true)
  | 4 => ("ExchangeHouse$Sheet", "right", "[I", true)
  | 5 => ("ExchangeHouse$Sheet", "signal", "[I", true)
  | 6 => ("ExchangeHouse$Sheet", "lines", "I", false)
  | 7 => ("ExchangeHouse$Sheet", "within", "[I", true)
  | 8 => ("ExchangeHouse$Sheet", "parent", "[I", true)
  | 9 => ("ExchangeHouse$Sheet", "options", "[I", true)
  | 10 => ("ExchangeHouse$Sheet", "optional", "[Z", true)
  | 11 => ("ExchangeHouse$Sheet", "points", "I", false)
  | 12 => ("ExchangeHouse$Sheet", "chosen", "[I", true)
  | 13 => ("ExchangeHouse$Sheet", "opened", "[I", true)
  | 14 => ("ExchangeHouse$Sheet", "depth", "I", false)
  | 15 => ("ExchangeHouse$Sheet", "events", "[J", true)
  | 16 => ("ExchangeHouse$Sheet", "eventCount", "[I", true)
  | 17 => ("ExchangeHouse$Sheet", "answeredLines", "I", false)
  | _ => ("ExchangeHouse$Sheet", "answeredChoices", "I", false)
def tySh : Nat → FieldType := fun k => match k with
  | 0 => .object "ExchangeHouse$Tokens"
  | 1 => .object "ExchangeHouse$Names"
  | 2 => .array .int
  | 3 => .array .int
  | 4 => .array .int
  | 5 => .array .int
  | 6 => .int
  | 7 => .array .int
  | 8 => .array .int
  | 9 => .array .int
  | 10 => .array .boolean
  | 11 => .int
  | 12 => .array .int
  | 13 => .array .int
  | 14 => .int
  | 15 => .array .long
  | 16 => .array .int
  | 17 => .int
  | _ => .int
theorem nmSh : ∀ a, a < 19 → ∀ b, b < 19 → a ≠ b → (TSh a).2.1 ≠ (TSh b).2.1 := by decide +kernel
theorem tySh_ok : ∀ k, k < 19 → parseFieldDescriptor (TSh k).2.2.1 = some (tySh k) := by decide +kernel
def RTk : String := "ExchangeHouse$Tokens"
def TTk : u_T := fun k => match k with
  | 0 => ("ExchangeHouse$Tokens", "kind", "[I", true)
  | 1 => ("ExchangeHouse$Tokens", "place", "[I", true)
  | 2 => ("ExchangeHouse$Tokens", "value", "[J", true)
  | 3 => ("ExchangeHouse$Tokens", "at", "I", false)
  | 4 => ("ExchangeHouse$Tokens", "open", "I", false)
  | 5 => ("ExchangeHouse$Tokens", "early", "I", false)
  | 6 => ("ExchangeHouse$Tokens", "earlyPlace", "I", false)
  | 7 => ("ExchangeHouse$Tokens", "late", "I", false)
  | 8 => ("ExchangeHouse$Tokens", "latePlace", "I", false)
  | 9 => ("ExchangeHouse$Tokens", "keywords", "[J", true)
  | 10 => ("ExchangeHouse$Tokens", "text", "[B", false)
  | _ => ("ExchangeHouse$Tokens", "length", "I", false)
def tyTk : Nat → FieldType := fun k => match k with
  | 0 => .array .int
  | 1 => .array .int
  | 2 => .array .long
  | 3 => .int
  | 4 => .int
  | 5 => .int
  | 6 => .int
  | 7 => .int
  | 8 => .int
  | 9 => .array .long
  | 10 => .array .byte
  | _ => .int
theorem nmTk : ∀ a, a < 12 → ∀ b, b < 12 → a ≠ b → (TTk a).2.1 ≠ (TTk b).2.1 := by decide +kernel
theorem tyTk_ok : ∀ k, k < 12 → parseFieldDescriptor (TTk k).2.2.1 = some (tyTk k) := by decide +kernel
def RE : String := "ExchangeHouse"
def TE : u_T := fun k => match k with
  | 0 => ("ExchangeHouse", "tape", "[B", false)
  | 1 => ("ExchangeHouse", "fed", "I", false)
  | 2 => ("ExchangeHouse", "tokens", "LExchangeHouse$Tokens;", false)
  | 3 => ("ExchangeHouse", "parser", "LExchangeHouse$Parser;", false)
  | 4 => ("ExchangeHouse", "judge", "LExchangeHouse$Judge;", false)
  | 5 => ("ExchangeHouse", "runner", "LExchangeHouse$Runner;", false)
  | 6 => ("ExchangeHouse", "seeker", "LExchangeHouse$Seeker;", false)
  | 7 => ("ExchangeHouse", "sheet", "LExchangeHouse$Sheet;", false)
  | 8 => ("ExchangeHouse", "plan", "LExchangeHouse$Plan;", false)
  | 9 => ("ExchangeHouse", "spare", "LExchangeHouse$Plan;", false)
  | 10 => ("ExchangeHouse", "running", "Z", false)
  | _ => ("ExchangeHouse", "faultPlace", "I", false)
def tyE : Nat → FieldType := fun k => match k with
  | 0 => .array .byte
  | 1 => .int
  | 2 => .object "ExchangeHouse$Tokens"
  | 3 => .object "ExchangeHouse$Parser"
  | 4 => .object "ExchangeHouse$Judge"
  | 5 => .object "ExchangeHouse$Runner"
  | 6 => .object "ExchangeHouse$Seeker"
  | 7 => .object "ExchangeHouse$Sheet"
  | 8 => .object "ExchangeHouse$Plan"
  | 9 => .object "ExchangeHouse$Plan"
  | 10 => .boolean
  | _ => .int
theorem nmE : ∀ a, a < 12 → ∀ b, b < 12 → a ≠ b → (TE a).2.1 ≠ (TE b).2.1 := by decide +kernel
theorem tyE_ok : ∀ k, k < 12 → parseFieldDescriptor (TE k).2.2.1 = some (tyE k) := by decide +kernel
def RM : String := "ExchangeHouseModel"
def TM : u_T := fun k => match k with
  | 0 => ("ExchangeHouseModel", "tape", "[B", true)
  | 1 => ("ExchangeHouseModel", "text", "[B", true)
  | 2 => ("ExchangeHouseModel", "good", "[B", true)
  | 3 => ("ExchangeHouseModel", "taped", "I", false)
  | 4 => ("ExchangeHouseModel", "length", "I", false)
  | 5 => ("ExchangeHouseModel", "goodLength", "I", false)
  | 6 => ("ExchangeHouseModel", "there", "Z", false)
  | 7 => ("ExchangeHouseModel", "words", "[J", true)
  | 8 => ("ExchangeHouseModel", "tk", "[I", true)
  | 9 => ("ExchangeHouseModel", "tp", "[I", true)
  | 10 => ("ExchangeHouseModel", "tv", "[J", true)
  | 11 => ("ExchangeHouseModel", "many", "I", false)
  | 12 => ("ExchangeHouseModel", "at", "I", false)
  | 13 => ("ExchangeHouseModel", "fault", "I", false)
  | 14 => ("ExchangeHouseModel", "faultAt", "I", false)
  | 15 => ("ExchangeHouseModel", "open", "I", false)
  | 16 => ("ExchangeHouseModel", "judges", "Z", false)
  | 17 => ("ExchangeHouseModel", "sigs", "I", false)
  | 18 => ("ExchangeHouseModel", "routes", "I", false)
  | 19 => ("ExchangeHouseModel", "types", "I", false)
  | 20 => ("ExchangeHouseModel", "sName", "[J", true)
  | 21 => ("ExchangeHouseModel", "rName", "[J", true)
  | 22 => ("ExchangeHouseModel", "tName", "[J", true)
  | 23 => ("ExchangeHouseModel", "sAt", "[I", true)
  | 24 => ("ExchangeHouseModel", "sSorts", "[I", true)
  | 25 => ("ExchangeHouseModel", "sSort", "[I", true)
  | 26 => ("ExchangeHouseModel", "rFrom", "[J", true)
  | 27 => ("ExchangeHouseModel", "rTo", "[J", true)
  | 28 => ("ExchangeHouseModel", "rSource", "[I", true)
  | 29 => ("ExchangeHouseModel", "rGoal", "[I", true)
  | 30 => ("ExchangeHouseModel", "rLow", "[I", true)
  | 31 => ("ExchangeHouseModel", "rHigh", "[I", true)
  | 32 => ("ExchangeHouseModel", "rCarries", "[I", true)
  | 33 => ("ExchangeHouseModel", "rNames", "[I", true)
  | 34 => ("ExchangeHouseModel", "rTwo", "[Z", true)
  | 35 => ("ExchangeHouseModel", "tAt", "[I", true)
  | 36 => ("ExchangeHouseModel", "tLow", "[I", true)
  | 37 => ("ExchangeHouseModel", "tHigh", "[I", true)
  | 38 => ("ExchangeHouseModel", "tPars", "[I", true)
  | 39 => ("ExchangeHouseModel", "tVars", "[I", true)
  | 40 => ("ExchangeHouseModel", "tCells", "[I", true)
  | 41 => ("ExchangeHouseModel", "tTimers", "[I", true)
  | 42 => ("ExchangeHouseModel", "tStates", "[I", true)
  | 43 => ("ExchangeHouseModel", "tLabels", "[I", true)
  | 44 => ("ExchangeHouseModel", "tStart", "[I", true)
  | 45 => ("ExchangeHouseModel", "vName", "[J", true)
  | 46 => ("ExchangeHouseModel", "mName", "[J", true)
  | 47 => ("ExchangeHouseModel", "stName", "[J", true)
  | 48 => ("ExchangeHouseModel", "lName", "[J", true)
  | 49 => ("ExchangeHouseModel", "vAt", "[I", true)
  | 50 => ("ExchangeHouseModel", "vSort", "[I", true)
  | 51 => ("ExchangeHouseModel", "vSize", "[I", true)
  | 52 => ("ExchangeHouseModel", "vCell", "[I", true)
  | 53 => ("ExchangeHouseModel", "mAt", "[I", true)
  | 54 => ("ExchangeHouseModel", "stAt", "[I", true)
  | 55 => ("ExchangeHouseModel", "lAt", "[I", true)
  | 56 => ("ExchangeHouseModel", "lGoal", "[I", true)
  | 57 => ("ExchangeHouseModel", "lTrans", "[I", true)
  | 58 => ("ExchangeHouseModel", "globals", "I", false)
  | 59 => ("ExchangeHouseModel", "gName", "[J", true)
  | 60 => ("ExchangeHouseModel", "gAt", "[I", true)
  | 61 => ("ExchangeHouseModel", "type", "I", false)
  | 62 => ("ExchangeHouseModel", "stims", "I", false)
  | 63 => ("ExchangeHouseModel", "ins", "I", false)
  | 64 => ("ExchangeHouseModel", "stType", "[I", true)
  | 65 => ("ExchangeHouseModel", "stKind", "[I", true)
  | 66 => ("ExchangeHouseModel", "stMask", "[I", true)
  | 67 => ("ExchangeHouseModel", "stPrio", "[I", true)
  | 68 => ("ExchangeHouseModel", "stIf", "[I", true)
  | 69 => ("ExchangeHouseModel", "stCode", "[I", true)
  | 70 => ("ExchangeHouseModel", "stFrom", "[I", true)
  | 71 => ("ExchangeHouseModel", "stTo", "[I", true)
  | 72 => ("ExchangeHouseModel", "inSignal", "[I", true)
  | 73 => ("ExchangeHouseModel", "inCount", "[I", true)
  | 74 => ("ExchangeHouseModel", "inVar", "[I", true)
  | 75 => ("ExchangeHouseModel", "codes", "I", false)
  | 76 => ("ExchangeHouseModel", "transes", "I", false)
  | 77 => ("ExchangeHouseModel", "op", "[I", true)
  | 78 => ("ExchangeHouseModel", "opAt", "[I", true)
  | 79 => ("ExchangeHouseModel", "opA", "[I", true)
  | 80 => ("ExchangeHouseModel", "opB", "[I", true)
  | 81 => ("ExchangeHouseModel", "opC", "[I", true)
  | 82 => ("ExchangeHouseModel", "opD", "[I", true)
  | 83 => ("ExchangeHouseModel", "opValue", "[I", true)
  | 84 => ("ExchangeHouseModel", "opValues", "[I", true)
  | 85 => ("ExchangeHouseModel", "trType", "[I", true)
  | 86 => ("ExchangeHouseModel", "trMask", "[I", true)
  | 87 => ("ExchangeHouseModel", "trNext", "[I", true)
  | 88 => ("ExchangeHouseModel", "trJoin", "[I", true)
  | 89 => ("ExchangeHouseModel", "trStart", "[Z", true)
  | 90 => ("ExchangeHouseModel", "ranges", "I", false)
  | 91 => ("ExchangeHouseModel", "rgLow", "[I", true)
  | 92 => ("ExchangeHouseModel", "rgHigh", "[I", true)
  | 93 => ("ExchangeHouseModel", "rgGoal", "[I", true)
  | 94 => ("ExchangeHouseModel", "rgNext", "[I", true)
  | 95 => ("ExchangeHouseModel", "dCode", "[I", true)
  | 96 => ("ExchangeHouseModel", "dMany", "[I", true)
  | 97 => ("ExchangeHouseModel", "dLatest", "[I", true)
  | 98 => ("ExchangeHouseModel", "dSort", "[I", true)
  | 99 => ("ExchangeHouseModel", "dJump", "[I", true)
  | 100 => ("ExchangeHouseModel", "dElse", "[Z", true)
  | 101 => ("ExchangeHouseModel", "dEnds", "[Z", true)
  | 102 => ("ExchangeHouseModel", "deep", "I", false)
  | 103 => ("ExchangeHouseModel", "ends", "Z", false)
  | 104 => ("ExchangeHouseModel", "forms", "I", false)
  | 105 => ("ExchangeHouseModel", "form", "[I", true)
  | 106 => ("ExchangeHouseModel", "formOf", "[I", true)
  | 107 => ("ExchangeHouseModel", "eSort", "I", false)
  | 108 => ("ExchangeHouseModel", "eAt", "I", false)
  | 109 => ("ExchangeHouseModel", "eBad", "Z", false)
  | 110 => ("ExchangeHouseModel", "oSign", "[I", true)
  | 111 => ("ExchangeHouseModel", "oToken", "[I", true)
  | 112 => ("ExchangeHouseModel", "signs", "I", false)
  | 113 => ("ExchangeHouseModel", "wSort", "[I", true)
  | 114 => ("ExchangeHouseModel", "wAt", "[I", true)
  | 115 => ("ExchangeHouseModel", "wBad", "[Z", true)
  | 116 => ("ExchangeHouseModel", "waits", "I", false)
  | 117 => ("ExchangeHouseModel", "compares", "[Z", true)
  | 118 => ("ExchangeHouseModel", "brackets", "I", false)
  | 119 => ("ExchangeHouseModel", "place", "I", false)
  | 120 => ("ExchangeHouseModel", "warnings", "I", false)
  | 121 => ("ExchangeHouseModel", "warns", "[I", true)
  | 122 => ("ExchangeHouseModel", "warnsAt", "[I", true)
  | 123 => ("ExchangeHouseModel", "comeTo", "[I", true)
  | 124 => ("ExchangeHouseModel", "tells", "[Z", true)
  | 125 => ("ExchangeHouseModel", "s", "[I", false)
  | 126 => ("ExchangeHouseModel", "runs", "Z", false)
  | 127 => ("ExchangeHouseModel", "quiet", "Z", false)
  | 128 => ("ExchangeHouseModel", "now", "I", false)
  | 129 => ("ExchangeHouseModel", "seed", "I", false)
  | 130 => ("ExchangeHouseModel", "latest", "I", false)
  | 131 => ("ExchangeHouseModel", "madeInAll", "I", false)
  | 132 => ("ExchangeHouseModel", "lostInAll", "I", false)
  | 133 => ("ExchangeHouseModel", "errorsInAll", "I", false)
  | 134 => ("ExchangeHouseModel", "lastError", "I", false)
  | 135 => ("ExchangeHouseModel", "lastErrorAt", "I", false)
  | 136 => ("ExchangeHouseModel", "steps", "I", false)
  | 137 => ("ExchangeHouseModel", "outs", "I", false)
  | 138 => ("ExchangeHouseModel", "lostNow", "I", false)
  | 139 => ("ExchangeHouseModel", "errorsNow", "I", false)
  | 140 => ("ExchangeHouseModel", "trace", "[I", true)
  | 141 => ("ExchangeHouseModel", "outRow", "[I", true)
  | 142 => ("ExchangeHouseModel", "traced", "I", false)
  | 143 => ("ExchangeHouseModel", "tracedFirst", "I", false)
  | 144 => ("ExchangeHouseModel", "outNext", "I", false)
  | 145 => ("ExchangeHouseModel", "outKept", "I", false)
  | 146 => ("ExchangeHouseModel", "given", "[I", true)
  | 147 => ("ExchangeHouseModel", "stack", "[I", true)
  | 148 => ("ExchangeHouseModel", "top", "I", false)
  | 149 => ("ExchangeHouseModel", "formError", "I", false)
  | 150 => ("ExchangeHouseModel", "worked", "[I", true)
  | 151 => ("ExchangeHouseModel", "stepStim", "I", false)
  | 152 => ("ExchangeHouseModel", "stepItem", "I", false)
  | 153 => ("ExchangeHouseModel", "stepIn", "I", false)
  | 154 => ("ExchangeHouseModel", "all", "[I", true)
  | 155 => ("ExchangeHouseModel", "kept", "[I", true)
  | 156 => ("ExchangeHouseModel", "fFrom", "[I", true)
  | 157 => ("ExchangeHouseModel", "fMove", "[I", true)
  | 158 => ("ExchangeHouseModel", "fDeep", "[I", true)
  | 159 => ("ExchangeHouseModel", "fMoves", "[I", true)
  | 160 => ("ExchangeHouseModel", "fLost", "[I", true)
  | 161 => ("ExchangeHouseModel", "fErrors", "[I", true)
  | 162 => ("ExchangeHouseModel", "fSum", "[I", true)
  | 163 => ("ExchangeHouseModel", "found", "I", false)
  | 164 => ("ExchangeHouseModel", "looked", "I", false)
  | 165 => ("ExchangeHouseModel", "limit", "I", false)
  | 166 => ("ExchangeHouseModel", "moves", "I", false)
  | 167 => ("ExchangeHouseModel", "lostMoves", "I", false)
  | 168 => ("ExchangeHouseModel", "errorMoves", "I", false)
  | 169 => ("ExchangeHouseModel", "wasCut", "Z", false)
  | 170 => ("ExchangeHouseModel", "insts", "I", false)
  | 171 => ("ExchangeHouseModel", "lines", "I", false)
  | 172 => ("ExchangeHouseModel", "blocks", "I", false)
  | 173 => ("ExchangeHouseModel", "iName", "[J", true)
  | 174 => ("ExchangeHouseModel", "iNumber", "[I", true)
  | 175 => ("ExchangeHouseModel", "liLeft", "[I", true)
  | 176 => ("ExchangeHouseModel", "liRight", "[I", true)
  | 177 => ("ExchangeHouseModel", "liSignal", "[I", true)
  | 178 => ("ExchangeHouseModel", "liDeep", "[I", true)
  | 179 => ("ExchangeHouseModel", "liBlock", "[I", true)
  | 180 => ("ExchangeHouseModel", "liRow", "[I", true)
  | 181 => ("ExchangeHouseModel", "bMany", "[I", true)
  | 182 => ("ExchangeHouseModel", "bOpen", "[I", true)
  | 183 => ("ExchangeHouseModel", "bRow", "[I", true)
  | 184 => ("ExchangeHouseModel", "bChoice", "[I", true)
  | 185 => ("ExchangeHouseModel", "bOpt", "[Z", true)
  | 186 => ("ExchangeHouseModel", "within", "I", false)
  | 187 => ("ExchangeHouseModel", "linesTold", "I", false)
  | 188 => ("ExchangeHouseModel", "choicesKept", "I", false)
  | _ => ("ExchangeHouseModel", "eventsAt", "I", false)
def tyM : Nat → FieldType := fun k => match k with
  | 0 => .array .byte
  | 1 => .array .byte
  | 2 => .array .byte
  | 3 => .int
  | 4 => .int
  | 5 => .int
  | 6 => .boolean
  | 7 => .array .long
  | 8 => .array .int
  | 9 => .array .int
  | 10 => .array .long
  | 11 => .int
  | 12 => .int
  | 13 => .int
  | 14 => .int
  | 15 => .int
  | 16 => .boolean
  | 17 => .int
  | 18 => .int
  | 19 => .int
  | 20 => .array .long
  | 21 => .array .long
  | 22 => .array .long
  | 23 => .array .int
  | 24 => .array .int
  | 25 => .array .int
  | 26 => .array .long
  | 27 => .array .long
  | 28 => .array .int
  | 29 => .array .int
  | 30 => .array .int
  | 31 => .array .int
  | 32 => .array .int
  | 33 => .array .int
  | 34 => .array .boolean
  | 35 => .array .int
  | 36 => .array .int
  | 37 => .array .int
  | 38 => .array .int
  | 39 => .array .int
  | 40 => .array .int
  | 41 => .array .int
  | 42 => .array .int
  | 43 => .array .int
  | 44 => .array .int
  | 45 => .array .long
  | 46 => .array .long
  | 47 => .array .long
  | 48 => .array .long
  | 49 => .array .int
  | 50 => .array .int
  | 51 => .array .int
  | 52 => .array .int
  | 53 => .array .int
  | 54 => .array .int
  | 55 => .array .int
  | 56 => .array .int
  | 57 => .array .int
  | 58 => .int
  | 59 => .array .long
  | 60 => .array .int
  | 61 => .int
  | 62 => .int
  | 63 => .int
  | 64 => .array .int
  | 65 => .array .int
  | 66 => .array .int
  | 67 => .array .int
  | 68 => .array .int
  | 69 => .array .int
  | 70 => .array .int
  | 71 => .array .int
  | 72 => .array .int
  | 73 => .array .int
  | 74 => .array .int
  | 75 => .int
  | 76 => .int
  | 77 => .array .int
  | 78 => .array .int
  | 79 => .array .int
  | 80 => .array .int
  | 81 => .array .int
  | 82 => .array .int
  | 83 => .array .int
  | 84 => .array .int
  | 85 => .array .int
  | 86 => .array .int
  | 87 => .array .int
  | 88 => .array .int
  | 89 => .array .boolean
  | 90 => .int
  | 91 => .array .int
  | 92 => .array .int
  | 93 => .array .int
  | 94 => .array .int
  | 95 => .array .int
  | 96 => .array .int
  | 97 => .array .int
  | 98 => .array .int
  | 99 => .array .int
  | 100 => .array .boolean
  | 101 => .array .boolean
  | 102 => .int
  | 103 => .boolean
  | 104 => .int
  | 105 => .array .int
  | 106 => .array .int
  | 107 => .int
  | 108 => .int
  | 109 => .boolean
  | 110 => .array .int
  | 111 => .array .int
  | 112 => .int
  | 113 => .array .int
  | 114 => .array .int
  | 115 => .array .boolean
  | 116 => .int
  | 117 => .array .boolean
  | 118 => .int
  | 119 => .int
  | 120 => .int
  | 121 => .array .int
  | 122 => .array .int
  | 123 => .array .int
  | 124 => .array .boolean
  | 125 => .array .int
  | 126 => .boolean
  | 127 => .boolean
  | 128 => .int
  | 129 => .int
  | 130 => .int
  | 131 => .int
  | 132 => .int
  | 133 => .int
  | 134 => .int
  | 135 => .int
  | 136 => .int
  | 137 => .int
  | 138 => .int
  | 139 => .int
  | 140 => .array .int
  | 141 => .array .int
  | 142 => .int
  | 143 => .int
  | 144 => .int
  | 145 => .int
  | 146 => .array .int
  | 147 => .array .int
  | 148 => .int
  | 149 => .int
  | 150 => .array .int
  | 151 => .int
  | 152 => .int
  | 153 => .int
  | 154 => .array .int
  | 155 => .array .int
  | 156 => .array .int
  | 157 => .array .int
  | 158 => .array .int
  | 159 => .array .int
  | 160 => .array .int
  | 161 => .array .int
  | 162 => .array .int
  | 163 => .int
  | 164 => .int
  | 165 => .int
  | 166 => .int
  | 167 => .int
  | 168 => .int
  | 169 => .boolean
  | 170 => .int
  | 171 => .int
  | 172 => .int
  | 173 => .array .long
  | 174 => .array .int
  | 175 => .array .int
  | 176 => .array .int
  | 177 => .array .int
  | 178 => .array .int
  | 179 => .array .int
  | 180 => .array .int
  | 181 => .array .int
  | 182 => .array .int
  | 183 => .array .int
  | 184 => .array .int
  | 185 => .array .boolean
  | 186 => .int
  | 187 => .int
  | 188 => .int
  | _ => .int
theorem nmM : ∀ a, a < 190 → ∀ b, b < 190 → a ≠ b → (TM a).2.1 ≠ (TM b).2.1 := by decide +kernel
theorem tyM_ok : ∀ k, k < 190 → parseFieldDescriptor (TM k).2.2.1 = some (tyM k) := by decide +kernel
def RJx8e188 : String := "java/lang/Cloneable"
def TJx8e188 : u_T := fun k => match k with
  | _ => ("", "", "", false)
def tyJx8e188 : Nat → FieldType := fun k => match k with
  | _ => .int
theorem nmJx8e188 : ∀ a, a < 0 → ∀ b, b < 0 → a ≠ b → (TJx8e188 a).2.1 ≠ (TJx8e188 b).2.1 := by decide +kernel
theorem tyJx8e188_ok : ∀ k, k < 0 → parseFieldDescriptor (TJx8e188 k).2.2.1 = some (tyJx8e188 k) := by decide +kernel
def RJ9 : String := "java/lang/Math"
def TJ9 : u_T := fun k => match k with
  | _ => ("", "", "", false)
def tyJ9 : Nat → FieldType := fun k => match k with
  | _ => .int
theorem nmJ9 : ∀ a, a < 0 → ∀ b, b < 0 → a ≠ b → (TJ9 a).2.1 ≠ (TJ9 b).2.1 := by decide +kernel
theorem tyJ9_ok : ∀ k, k < 0 → parseFieldDescriptor (TJ9 k).2.2.1 = some (tyJ9 k) := by decide +kernel
def RJ0 : String := "java/lang/String"
def TJ0 : u_T := fun k => match k with
  | _ => ("", "", "", false)
def tyJ0 : Nat → FieldType := fun k => match k with
  | _ => .int
theorem nmJ0 : ∀ a, a < 0 → ∀ b, b < 0 → a ≠ b → (TJ0 a).2.1 ≠ (TJ0 b).2.1 := by decide +kernel
theorem tyJ0_ok : ∀ k, k < 0 → parseFieldDescriptor (TJ0 k).2.2.1 = some (tyJ0 k) := by decide +kernel
def RJ1 : String := "java/lang/StringLatin1"
def TJ1 : u_T := fun k => match k with
  | _ => ("", "", "", false)
def tyJ1 : Nat → FieldType := fun k => match k with
  | _ => .int
theorem nmJ1 : ∀ a, a < 0 → ∀ b, b < 0 → a ≠ b → (TJ1 a).2.1 ≠ (TJ1 b).2.1 := by decide +kernel
theorem tyJ1_ok : ∀ k, k < 0 → parseFieldDescriptor (TJ1 k).2.2.1 = some (tyJ1 k) := by decide +kernel
def RJ2 : String := "java/lang/StringUTF16"
def TJ2 : u_T := fun k => match k with
  | _ => ("", "", "", false)
def tyJ2 : Nat → FieldType := fun k => match k with
  | _ => .int
theorem nmJ2 : ∀ a, a < 0 → ∀ b, b < 0 → a ≠ b → (TJ2 a).2.1 ≠ (TJ2 b).2.1 := by decide +kernel
theorem tyJ2_ok : ∀ k, k < 0 → parseFieldDescriptor (TJ2 k).2.2.1 = some (tyJ2 k) := by decide +kernel
def RJ10 : String := "java/lang/System"
def TJ10 : u_T := fun k => match k with
  | _ => ("", "", "", false)
def tyJ10 : Nat → FieldType := fun k => match k with
  | _ => .int
theorem nmJ10 : ∀ a, a < 0 → ∀ b, b < 0 → a ≠ b → (TJ10 a).2.1 ≠ (TJ10 b).2.1 := by decide +kernel
theorem tyJ10_ok : ∀ k, k < 0 → parseFieldDescriptor (TJ10 k).2.2.1 = some (tyJ10 k) := by decide +kernel
def RJ7 : String := "java/util/Arrays"
def TJ7 : u_T := fun k => match k with
  | _ => ("", "", "", false)
def tyJ7 : Nat → FieldType := fun k => match k with
  | _ => .int
theorem nmJ7 : ∀ a, a < 0 → ∀ b, b < 0 → a ≠ b → (TJ7 a).2.1 ≠ (TJ7 b).2.1 := by decide +kernel
theorem tyJ7_ok : ∀ k, k < 0 → parseFieldDescriptor (TJ7 k).2.2.1 = some (tyJ7 k) := by decide +kernel
def RJ3 : String := "jdk/internal/util/Preconditions"
def TJ3 : u_T := fun k => match k with
  | _ => ("", "", "", false)
def tyJ3 : Nat → FieldType := fun k => match k with
  | _ => .int
theorem nmJ3 : ∀ a, a < 0 → ∀ b, b < 0 → a ≠ b → (TJ3 a).2.1 ≠ (TJ3 b).2.1 := by decide +kernel
theorem tyJ3_ok : ∀ k, k < 0 → parseFieldDescriptor (TJ3 k).2.2.1 = some (tyJ3 k) := by decide +kernel
abbrev cJu_init : ByteArray := prog_2_method_1_code
def yJu_init : MethodName := ⟨RJu, "<init>", "(LExchangeHouse$Tokens;)V"⟩
abbrev cJu_check : ByteArray := prog_2_method_2_code
def yJu_check : MethodName := ⟨RJu, "check", "(LExchangeHouse$Plan;)V"⟩
abbrev cJu_blame : ByteArray := prog_2_method_3_code
def yJu_blame : MethodName := ⟨RJu, "blame", "(II)V"⟩
abbrev cJu_askTold : ByteArray := prog_2_method_4_code
def yJu_askTold : MethodName := ⟨RJu, "askTold", "(LExchangeHouse$Names;)V"⟩
abbrev cJu_askNamesOf : ByteArray := prog_2_method_5_code
def yJu_askNamesOf : MethodName := ⟨RJu, "askNamesOf", "(LExchangeHouse$Kind;)V"⟩
abbrev cJu_isToldIn : ByteArray := prog_2_method_6_code
def yJu_isToldIn : MethodName := ⟨RJu, "isToldIn", "(LExchangeHouse$Kind;JI)Z"⟩
abbrev cJu_askRoute : ByteArray := prog_2_method_7_code
def yJu_askRoute : MethodName := ⟨RJu, "askRoute", "(I)V"⟩
abbrev cJu_find : ByteArray := prog_2_method_8_code
def yJu_find : MethodName := ⟨RJu, "find", "(LExchangeHouse$Names;I)I"⟩
abbrev cJu_findVariable : ByteArray := prog_2_method_9_code
def yJu_findVariable : MethodName := ⟨RJu, "findVariable", "(IZ)I"⟩
abbrev cJu_push : ByteArray := prog_2_method_10_code
def yJu_push : MethodName := ⟨RJu, "push", "(II)V"⟩
abbrev cJu_pops : ByteArray := prog_2_method_11_code
def yJu_pops : MethodName := ⟨RJu, "pops", "(I)Z"⟩
abbrev cJu_askOperand : ByteArray := prog_2_method_12_code
def yJu_askOperand : MethodName := ⟨RJu, "askOperand", "(I)V"⟩
abbrev cJu_askOperator : ByteArray := prog_2_method_13_code
def yJu_askOperator : MethodName := ⟨RJu, "askOperator", "(I)V"⟩
abbrev cJu_setCells : ByteArray := prog_2_method_14_code
def yJu_setCells : MethodName := ⟨RJu, "setCells", "(II)V"⟩
abbrev cJu_askBinary : ByteArray := prog_2_method_15_code
def yJu_askBinary : MethodName := ⟨RJu, "askBinary", "(I)V"⟩
abbrev cJu_askStimulus : ByteArray := prog_2_method_16_code
def yJu_askStimulus : MethodName := ⟨RJu, "askStimulus", "(I)V"⟩
abbrev cJu_enter : ByteArray := prog_2_method_17_code
def yJu_enter : MethodName := ⟨RJu, "enter", "(II)V"⟩
abbrev cJu_askInto : ByteArray := prog_2_method_18_code
def yJu_askInto : MethodName := ⟨RJu, "askInto", "(II)V"⟩
abbrev cJu_askAct : ByteArray := prog_2_method_19_code
def yJu_askAct : MethodName := ⟨RJu, "askAct", "(I)V"⟩
abbrev cJu_askOutput : ByteArray := prog_2_method_20_code
def yJu_askOutput : MethodName := ⟨RJu, "askOutput", "(II)V"⟩
abbrev cJu_askVia : ByteArray := prog_2_method_21_code
def yJu_askVia : MethodName := ⟨RJu, "askVia", "(II)V"⟩
abbrev cJu_askCreate : ByteArray := prog_2_method_22_code
def yJu_askCreate : MethodName := ⟨RJu, "askCreate", "(II)V"⟩
abbrev cJu_askDecide : ByteArray := prog_2_method_23_code
def yJu_askDecide : MethodName := ⟨RJu, "askDecide", "()V"⟩
abbrev cJu_askOther : ByteArray := prog_2_method_24_code
def yJu_askOther : MethodName := ⟨RJu, "askOther", "(I)V"⟩
abbrev cJu_askRange : ByteArray := prog_2_method_25_code
def yJu_askRange : MethodName := ⟨RJu, "askRange", "(I)V"⟩
abbrev cJu_warn : ByteArray := prog_2_method_26_code
def yJu_warn : MethodName := ⟨RJu, "warn", "(LExchangeHouse$Plan;)V"⟩
abbrev cJu_warnOfAll : ByteArray := prog_2_method_27_code
def yJu_warnOfAll : MethodName := ⟨RJu, "warnOfAll", "(LExchangeHouse$Names;II)V"⟩
abbrev cJu_addWarning : ByteArray := prog_2_method_28_code
def yJu_addWarning : MethodName := ⟨RJu, "addWarning", "(II)V"⟩
abbrev cJu_isBehind : ByteArray := prog_2_method_29_code
def yJu_isBehind : MethodName := ⟨RJu, "isBehind", "([IIII)Z"⟩
abbrev cJu_warnOfType : ByteArray := prog_2_method_30_code
def yJu_warnOfType : MethodName := ⟨RJu, "warnOfType", "(LExchangeHouse$Kind;)V"⟩
abbrev cJu_holdsLabel : ByteArray := prog_2_method_31_code
def yJu_holdsLabel : MethodName := ⟨RJu, "holdsLabel", "(LExchangeHouse$Kind;II)Z"⟩
abbrev cJu_joinsOf : ByteArray := prog_2_method_32_code
def yJu_joinsOf : MethodName := ⟨RJu, "joinsOf", "(LExchangeHouse$Kind;)I"⟩
abbrev cKd_init : ByteArray := prog_3_method_1_code
def yKd_init : MethodName := ⟨RKd, "<init>", "()V"⟩
abbrev cKd_clear : ByteArray := prog_3_method_2_code
def yKd_clear : MethodName := ⟨RKd, "clear", "()V"⟩
abbrev cKd_shape : ByteArray := prog_3_method_3_code
def yKd_shape : MethodName := ⟨RKd, "shape", "(III)V"⟩
abbrev cLo_init : ByteArray := prog_4_method_1_code
def yLo_init : MethodName := ⟨RLo, "<init>", "(Z)V"⟩
abbrev cLo_clear : ByteArray := prog_4_method_2_code
def yLo_clear : MethodName := ⟨RLo, "clear", "()V"⟩
abbrev cLo_note : ByteArray := prog_4_method_3_code
def yLo_note : MethodName := ⟨RLo, "note", "(IIII)V"⟩
abbrev cLo_noteOut : ByteArray := prog_4_method_4_code
def yLo_noteOut : MethodName := ⟨RLo, "noteOut", "([II)V"⟩
abbrev cLo_eventAt : ByteArray := prog_4_method_5_code
def yLo_eventAt : MethodName := ⟨RLo, "eventAt", "(II)I"⟩
abbrev cLo_outAt : ByteArray := prog_4_method_6_code
def yLo_outAt : MethodName := ⟨RLo, "outAt", "(II)I"⟩
abbrev cNa_init : ByteArray := prog_5_method_1_code
def yNa_init : MethodName := ⟨RNa, "<init>", "(I)V"⟩
abbrev cNa_isFull : ByteArray := prog_5_method_2_code
def yNa_isFull : MethodName := ⟨RNa, "isFull", "()Z"⟩
abbrev cNa_add : ByteArray := prog_5_method_3_code
def yNa_add : MethodName := ⟨RNa, "add", "(JI)V"⟩
abbrev cNa_find : ByteArray := prog_5_method_4_code
def yNa_find : MethodName := ⟨RNa, "find", "(J)I"⟩
abbrev cNa_toldAhead : ByteArray := prog_5_method_5_code
def yNa_toldAhead : MethodName := ⟨RNa, "toldAhead", "(JI)Z"⟩
abbrev cNe_init : ByteArray := prog_6_method_1_code
def yNe_init : MethodName := ⟨RNe, "<init>", "()V"⟩
abbrev cNe_clear : ByteArray := prog_6_method_2_code
def yNe_clear : MethodName := ⟨RNe, "clear", "(I)V"⟩
abbrev cNe_rowAt : ByteArray := prog_6_method_3_code
def yNe_rowAt : MethodName := ⟨RNe, "rowAt", "(II)I"⟩
abbrev cNe_find : ByteArray := prog_6_method_4_code
def yNe_find : MethodName := ⟨RNe, "find", "(I)I"⟩
abbrev cNe_countOf : ByteArray := prog_6_method_5_code
def yNe_countOf : MethodName := ⟨RNe, "countOf", "(I)I"⟩
abbrev cNe_leastOf : ByteArray := prog_6_method_6_code
def yNe_leastOf : MethodName := ⟨RNe, "leastOf", "(I)I"⟩
abbrev cNe_make : ByteArray := prog_6_method_7_code
def yNe_make : MethodName := ⟨RNe, "make", "(II)I"⟩
abbrev cNe_drop : ByteArray := prog_6_method_8_code
def yNe_drop : MethodName := ⟨RNe, "drop", "(I)V"⟩
abbrev cNe_push : ByteArray := prog_6_method_9_code
def yNe_push : MethodName := ⟨RNe, "push", "(I[I)Z"⟩
abbrev cNe_pull : ByteArray := prog_6_method_10_code
def yNe_pull : MethodName := ⟨RNe, "pull", "(II[I)V"⟩
abbrev cNe_remove : ByteArray := prog_6_method_11_code
def yNe_remove : MethodName := ⟨RNe, "remove", "(II)V"⟩
abbrev cNe_cancel : ByteArray := prog_6_method_12_code
def yNe_cancel : MethodName := ⟨RNe, "cancel", "(II)V"⟩
abbrev cNe_isActive : ByteArray := prog_6_method_13_code
def yNe_isActive : MethodName := ⟨RNe, "isActive", "(II)Z"⟩
abbrev cNe_depart : ByteArray := prog_6_method_14_code
def yNe_depart : MethodName := ⟨RNe, "depart", "(I[II)V"⟩
abbrev cNe_takeFirst : ByteArray := prog_6_method_15_code
def yNe_takeFirst : MethodName := ⟨RNe, "takeFirst", "(I[I)V"⟩
abbrev cNe_nextTime : ByteArray := prog_6_method_16_code
def yNe_nextTime : MethodName := ⟨RNe, "nextTime", "(I)I"⟩
abbrev cNe_earlier : ByteArray := prog_6_method_17_code
def yNe_earlier : MethodName := ⟨RNe, "earlier", "(II)I"⟩
abbrev cNe_pack : ByteArray := prog_6_method_18_code
def yNe_pack : MethodName := ⟨RNe, "pack", "(LExchangeHouse$Plan;[II)I"⟩
abbrev cNe_packOne : ByteArray := prog_6_method_19_code
def yNe_packOne : MethodName := ⟨RNe, "packOne", "(II[II)I"⟩
abbrev cNe_unpack : ByteArray := prog_6_method_20_code
def yNe_unpack : MethodName := ⟨RNe, "unpack", "(LExchangeHouse$Plan;[II)V"⟩
abbrev cNe_unpackOne : ByteArray := prog_6_method_21_code
def yNe_unpackOne : MethodName := ⟨RNe, "unpackOne", "(ILExchangeHouse$Plan;[II)I"⟩
abbrev cPa_init : ByteArray := prog_7_method_1_code
def yPa_init : MethodName := ⟨RPa, "<init>", "(LExchangeHouse$Tokens;)V"⟩
abbrev cPa_parse : ByteArray := prog_7_method_2_code
def yPa_parse : MethodName := ⟨RPa, "parse", "(LExchangeHouse$Plan;)V"⟩
abbrev cPa_isOver : ByteArray := prog_7_method_3_code
def yPa_isOver : MethodName := ⟨RPa, "isOver", "(I)Z"⟩
abbrev cPa_fits : ByteArray := prog_7_method_4_code
def yPa_fits : MethodName := ⟨RPa, "fits", "(I)Z"⟩
abbrev cPa_told : ByteArray := prog_7_method_5_code
def yPa_told : MethodName := ⟨RPa, "told", "(LExchangeHouse$Names;)I"⟩
abbrev cPa_number : ByteArray := prog_7_method_6_code
def yPa_number : MethodName := ⟨RPa, "number", "(I)I"⟩
abbrev cPa_sort : ByteArray := prog_7_method_7_code
def yPa_sort : MethodName := ⟨RPa, "sort", "()I"⟩
abbrev cPa_signals : ByteArray := prog_7_method_8_code
def yPa_signals : MethodName := ⟨RPa, "signals", "()V"⟩
abbrev cPa_sorts : ByteArray := prog_7_method_9_code
def yPa_sorts : MethodName := ⟨RPa, "sorts", "(I)V"⟩
abbrev cPa_route : ByteArray := prog_7_method_10_code
def yPa_route : MethodName := ⟨RPa, "route", "()V"⟩
abbrev cPa_side : ByteArray := prog_7_method_11_code
def yPa_side : MethodName := ⟨RPa, "side", "(I)V"⟩
abbrev cPa_secondNumber : ByteArray := prog_7_method_12_code
def yPa_secondNumber : MethodName := ⟨RPa, "secondNumber", "(I)I"⟩
abbrev cPa_heading : ByteArray := prog_7_method_13_code
def yPa_heading : MethodName := ⟨RPa, "heading", "()V"⟩
abbrev cPa_parameters : ByteArray := prog_7_method_14_code
def yPa_parameters : MethodName := ⟨RPa, "parameters", "()V"⟩
abbrev cPa_variable : ByteArray := prog_7_method_15_code
def yPa_variable : MethodName := ⟨RPa, "variable", "()V"⟩
abbrev cPa_length : ByteArray := prog_7_method_16_code
def yPa_length : MethodName := ⟨RPa, "length", "()I"⟩
abbrev cPa_starting : ByteArray := prog_7_method_17_code
def yPa_starting : MethodName := ⟨RPa, "starting", "()V"⟩
abbrev cPa_stating : ByteArray := prog_7_method_18_code
def yPa_stating : MethodName := ⟨RPa, "stating", "()V"⟩
abbrev cPa_stateName : ByteArray := prog_7_method_19_code
def yPa_stateName : MethodName := ⟨RPa, "stateName", "()V"⟩
abbrev cPa_inputs : ByteArray := prog_7_method_20_code
def yPa_inputs : MethodName := ⟨RPa, "inputs", "()V"⟩
abbrev cPa_in : ByteArray := prog_7_method_21_code
def yPa_in : MethodName := ⟨RPa, "in", "(I)V"⟩
abbrev cPa_saves : ByteArray := prog_7_method_22_code
def yPa_saves : MethodName := ⟨RPa, "saves", "()V"⟩
abbrev cPa_whens : ByteArray := prog_7_method_23_code
def yPa_whens : MethodName := ⟨RPa, "whens", "()V"⟩
abbrev cPa_byItself : ByteArray := prog_7_method_24_code
def yPa_byItself : MethodName := ⟨RPa, "byItself", "()V"⟩
abbrev cPa_finish : ByteArray := prog_7_method_25_code
def yPa_finish : MethodName := ⟨RPa, "finish", "()V"⟩
abbrev cPa_condition : ByteArray := prog_7_method_26_code
def yPa_condition : MethodName := ⟨RPa, "condition", "()I"⟩
abbrev cPa_trans : ByteArray := prog_7_method_27_code
def yPa_trans : MethodName := ⟨RPa, "trans", "()I"⟩
abbrev cPa_beginsAct : ByteArray := prog_7_method_28_code
def yPa_beginsAct : MethodName := ⟨RPa, "beginsAct", "(I)Z"⟩
abbrev cPa_part : ByteArray := prog_7_method_29_code
def yPa_part : MethodName := ⟨RPa, "part", "()Z"⟩
abbrev cPa_act : ByteArray := prog_7_method_30_code
def yPa_act : MethodName := ⟨RPa, "act", "()I"⟩
abbrev cPa_labels : ByteArray := prog_7_method_31_code
def yPa_labels : MethodName := ⟨RPa, "labels", "()V"⟩
abbrev cPa_assignment : ByteArray := prog_7_method_32_code
def yPa_assignment : MethodName := ⟨RPa, "assignment", "(I)V"⟩
abbrev cPa_arguments : ByteArray := prog_7_method_33_code
def yPa_arguments : MethodName := ⟨RPa, "arguments", "()I"⟩
abbrev cPa_direction : ByteArray := prog_7_method_34_code
def yPa_direction : MethodName := ⟨RPa, "direction", "(III)V"⟩
abbrev cPa_next : ByteArray := prog_7_method_35_code
def yPa_next : MethodName := ⟨RPa, "next", "()V"⟩
abbrev cPa_decide : ByteArray := prog_7_method_36_code
def yPa_decide : MethodName := ⟨RPa, "decide", "()Z"⟩
abbrev cPa_beginsRange : ByteArray := prog_7_method_37_code
def yPa_beginsRange : MethodName := ⟨RPa, "beginsRange", "(I)Z"⟩
abbrev cPa_branch : ByteArray := prog_7_method_38_code
def yPa_branch : MethodName := ⟨RPa, "branch", "(I)Z"⟩
abbrev cPa_range : ByteArray := prog_7_method_39_code
def yPa_range : MethodName := ⟨RPa, "range", "()V"⟩
abbrev cPa_bound : ByteArray := prog_7_method_40_code
def yPa_bound : MethodName := ⟨RPa, "bound", "()I"⟩
abbrev cPa_beginsExpression : ByteArray := prog_7_method_41_code
def yPa_beginsExpression : MethodName := ⟨RPa, "beginsExpression", "(I)Z"⟩
abbrev cPa_levelOf : ByteArray := prog_7_method_42_code
def yPa_levelOf : MethodName := ⟨RPa, "levelOf", "(I)I"⟩
abbrev cPa_expression : ByteArray := prog_7_method_43_code
def yPa_expression : MethodName := ⟨RPa, "expression", "(I)V"⟩
abbrev cPa_unary : ByteArray := prog_7_method_44_code
def yPa_unary : MethodName := ⟨RPa, "unary", "()V"⟩
abbrev cPa_operand : ByteArray := prog_7_method_45_code
def yPa_operand : MethodName := ⟨RPa, "operand", "(II)V"⟩
abbrev cPl_init : ByteArray := prog_8_method_1_code
def yPl_init : MethodName := ⟨RPl, "<init>", "()V"⟩
abbrev cPl_clear : ByteArray := prog_8_method_2_code
def yPl_clear : MethodName := ⟨RPl, "clear", "()V"⟩
abbrev cPl_emit : ByteArray := prog_8_method_3_code
def yPl_emit : MethodName := ⟨RPl, "emit", "(IIII)I"⟩
abbrev cPl_addRow : ByteArray := prog_8_method_4_code
def yPl_addRow : MethodName := ⟨RPl, "addRow", "(II)I"⟩
abbrev cPl_ofRow : ByteArray := prog_8_method_5_code
def yPl_ofRow : MethodName := ⟨RPl, "ofRow", "(II)I"⟩
abbrev cPl_tableAt : ByteArray := prog_8_method_6_code
def yPl_tableAt : MethodName := ⟨RPl, "tableAt", "(III)I"⟩
abbrev cPl_entryOf : ByteArray := prog_8_method_7_code
def yPl_entryOf : MethodName := ⟨RPl, "entryOf", "(I)I"⟩
abbrev cPl_teller : ByteArray := prog_8_method_8_code
def yPl_teller : MethodName := ⟨RPl, "teller", "(III)I"⟩
abbrev cPl_findRoute : ByteArray := prog_8_method_9_code
def yPl_findRoute : MethodName := ⟨RPl, "findRoute", "(III)I"⟩
abbrev cRu_init : ByteArray := prog_9_method_1_code
def yRu_init : MethodName := ⟨RRu, "<init>", "(LExchangeHouse$Log;)V"⟩
abbrev cRu_start : ByteArray := prog_9_method_2_code
def yRu_start : MethodName := ⟨RRu, "start", "(LExchangeHouse$Plan;I)I"⟩
abbrev cRu_probe : ByteArray := prog_9_method_3_code
def yRu_probe : MethodName := ⟨RRu, "probe", "(LExchangeHouse$Plan;I)V"⟩
abbrev cRu_later : ByteArray := prog_9_method_4_code
def yRu_later : MethodName := ⟨RRu, "later", "(II)I"⟩
abbrev cRu_advance : ByteArray := prog_9_method_5_code
def yRu_advance : MethodName := ⟨RRu, "advance", "(I)I"⟩
abbrev cRu_takeTurn : ByteArray := prog_9_method_6_code
def yRu_takeTurn : MethodName := ⟨RRu, "takeTurn", "(I)V"⟩
abbrev cRu_nextReady : ByteArray := prog_9_method_7_code
def yRu_nextReady : MethodName := ⟨RRu, "nextReady", "()I"⟩
abbrev cRu_byHand : ByteArray := prog_9_method_8_code
def yRu_byHand : MethodName := ⟨RRu, "byHand", "(I)I"⟩
abbrev cRu_byItself : ByteArray := prog_9_method_9_code
def yRu_byItself : MethodName := ⟨RRu, "byItself", "(II)I"⟩
abbrev cRu_stands : ByteArray := prog_9_method_10_code
def yRu_stands : MethodName := ⟨RRu, "stands", "(III)Z"⟩
abbrev cRu_stir : ByteArray := prog_9_method_11_code
def yRu_stir : MethodName := ⟨RRu, "stir", "(II)V"⟩
abbrev cRu_fromEnv : ByteArray := prog_9_method_12_code
def yRu_fromEnv : MethodName := ⟨RRu, "fromEnv", "(IIIII)Z"⟩
abbrev cRu_valued : ByteArray := prog_9_method_13_code
def yRu_valued : MethodName := ⟨RRu, "valued", "(III)I"⟩
abbrev cRu_bringDue : ByteArray := prog_9_method_14_code
def yRu_bringDue : MethodName := ⟨RRu, "bringDue", "()V"⟩
abbrev cRu_land : ByteArray := prog_9_method_15_code
def yRu_land : MethodName := ⟨RRu, "land", "(I)V"⟩
abbrev cRu_ring : ByteArray := prog_9_method_16_code
def yRu_ring : MethodName := ⟨RRu, "ring", "(II)V"⟩
abbrev cRu_send : ByteArray := prog_9_method_17_code
def yRu_send : MethodName := ⟨RRu, "send", "(I)V"⟩
abbrev cRu_delay : ByteArray := prog_9_method_18_code
def yRu_delay : MethodName := ⟨RRu, "delay", "(I)I"⟩
abbrev cRu_arrive : ByteArray := prog_9_method_19_code
def yRu_arrive : MethodName := ⟨RRu, "arrive", "()V"⟩
abbrev cRu_choose : ByteArray := prog_9_method_20_code
def yRu_choose : MethodName := ⟨RRu, "choose", "(I)I"⟩
abbrev cRu_isBetter : ByteArray := prog_9_method_21_code
def yRu_isBetter : MethodName := ⟨RRu, "isBetter", "(I)Z"⟩
abbrev cRu_holds : ByteArray := prog_9_method_22_code
def yRu_holds : MethodName := ⟨RRu, "holds", "(II)Z"⟩
abbrev cRu_step : ByteArray := prog_9_method_23_code
def yRu_step : MethodName := ⟨RRu, "step", "(II)V"⟩
abbrev cRu_keepValues : ByteArray := prog_9_method_24_code
def yRu_keepValues : MethodName := ⟨RRu, "keepValues", "(I)V"⟩
abbrev cRu_perform : ByteArray := prog_9_method_25_code
def yRu_perform : MethodName := ⟨RRu, "perform", "(II)V"⟩
abbrev cRu_fail : ByteArray := prog_9_method_26_code
def yRu_fail : MethodName := ⟨RRu, "fail", "(I)V"⟩
abbrev cRu_halt : ByteArray := prog_9_method_27_code
def yRu_halt : MethodName := ⟨RRu, "halt", "(I)V"⟩
abbrev cRu_pop : ByteArray := prog_9_method_28_code
def yRu_pop : MethodName := ⟨RRu, "pop", "()I"⟩
abbrev cRu_push : ByteArray := prog_9_method_29_code
def yRu_push : MethodName := ⟨RRu, "push", "(I)V"⟩
abbrev cRu_evaluate : ByteArray := prog_9_method_30_code
def yRu_evaluate : MethodName := ⟨RRu, "evaluate", "(II)I"⟩
abbrev cRu_operand : ByteArray := prog_9_method_31_code
def yRu_operand : MethodName := ⟨RRu, "operand", "(III)I"⟩
abbrev cRu_change : ByteArray := prog_9_method_32_code
def yRu_change : MethodName := ⟨RRu, "change", "(III)I"⟩
abbrev cRu_bound : ByteArray := prog_9_method_33_code
def yRu_bound : MethodName := ⟨RRu, "bound", "(II)I"⟩
abbrev cRu_combine : ByteArray := prog_9_method_34_code
def yRu_combine : MethodName := ⟨RRu, "combine", "(III)I"⟩
abbrev cRu_act : ByteArray := prog_9_method_35_code
def yRu_act : MethodName := ⟨RRu, "act", "(II)I"⟩
abbrev cRu_address : ByteArray := prog_9_method_36_code
def yRu_address : MethodName := ⟨RRu, "address", "(II)V"⟩
abbrev cRu_fill : ByteArray := prog_9_method_37_code
def yRu_fill : MethodName := ⟨RRu, "fill", "(IIII)V"⟩
abbrev cRu_create : ByteArray := prog_9_method_38_code
def yRu_create : MethodName := ⟨RRu, "create", "(III)V"⟩
abbrev cSe_init : ByteArray := prog_10_method_1_code
def ySe_init : MethodName := ⟨RSe, "<init>", "(LExchangeHouse$Runner;)V"⟩
abbrev cSe_forget : ByteArray := prog_10_method_2_code
def ySe_forget : MethodName := ⟨RSe, "forget", "()V"⟩
abbrev cSe_find : ByteArray := prog_10_method_3_code
def ySe_find : MethodName := ⟨RSe, "find", "(LExchangeHouse$Plan;LExchangeHouse$Net;I)I"⟩
abbrev cSe_makeRoom : ByteArray := prog_10_method_4_code
def ySe_makeRoom : MethodName := ⟨RSe, "makeRoom", "()V"⟩
abbrev cSe_keep : ByteArray := prog_10_method_5_code
def ySe_keep : MethodName := ⟨RSe, "keep", "(III)V"⟩
abbrev cSe_hashOf : ByteArray := prog_10_method_6_code
def ySe_hashOf : MethodName := ⟨RSe, "hashOf", "(II)I"⟩
abbrev cSe_goThrough : ByteArray := prog_10_method_7_code
def ySe_goThrough : MethodName := ⟨RSe, "goThrough", "(I)V"⟩
abbrev cSe_stirAll : ByteArray := prog_10_method_8_code
def ySe_stirAll : MethodName := ⟨RSe, "stirAll", "(I)V"⟩
abbrev cSe_look : ByteArray := prog_10_method_9_code
def ySe_look : MethodName := ⟨RSe, "look", "(I)V"⟩
abbrev cSe_isKnown : ByteArray := prog_10_method_10_code
def ySe_isKnown : MethodName := ⟨RSe, "isKnown", "(I)Z"⟩
abbrev cSe_isLike : ByteArray := prog_10_method_11_code
def ySe_isLike : MethodName := ⟨RSe, "isLike", "(III)Z"⟩
abbrev cSe_tally : ByteArray := prog_10_method_12_code
def ySe_tally : MethodName := ⟨RSe, "tally", "(I)I"⟩
abbrev cSe_tell : ByteArray := prog_10_method_13_code
def ySe_tell : MethodName := ⟨RSe, "tell", "(II)I"⟩
abbrev cSe_earliest : ByteArray := prog_10_method_14_code
def ySe_earliest : MethodName := ⟨RSe, "earliest", "(III)I"⟩
abbrev cSe_answers : ByteArray := prog_10_method_15_code
def ySe_answers : MethodName := ⟨RSe, "answers", "(IIII)Z"⟩
abbrev cSe_hasQueued : ByteArray := prog_10_method_16_code
def ySe_hasQueued : MethodName := ⟨RSe, "hasQueued", "(I)Z"⟩
abbrev cSe_hasInstance : ByteArray := prog_10_method_17_code
def ySe_hasInstance : MethodName := ⟨RSe, "hasInstance", "(III)Z"⟩
abbrev cSe_restore : ByteArray := prog_10_method_18_code
def ySe_restore : MethodName := ⟨RSe, "restore", "(ILExchangeHouse$Net;)Z"⟩
abbrev cSh_init : ByteArray := prog_11_method_1_code
def ySh_init : MethodName := ⟨RSh, "<init>", "(LExchangeHouse$Tokens;)V"⟩
abbrev cSh_parse : ByteArray := prog_11_method_2_code
def ySh_parse : MethodName := ⟨RSh, "parse", "(LExchangeHouse$Names;)V"⟩
abbrev cSh_isOver : ByteArray := prog_11_method_3_code
def ySh_isOver : MethodName := ⟨RSh, "isOver", "()Z"⟩
abbrev cSh_point : ByteArray := prog_11_method_4_code
def ySh_point : MethodName := ⟨RSh, "point", "()I"⟩
abbrev cSh_inst : ByteArray := prog_11_method_5_code
def ySh_inst : MethodName := ⟨RSh, "inst", "()V"⟩
abbrev cSh_line : ByteArray := prog_11_method_6_code
def ySh_line : MethodName := ⟨RSh, "line", "(LExchangeHouse$Names;)V"⟩
abbrev cSh_end : ByteArray := prog_11_method_7_code
def ySh_end : MethodName := ⟨RSh, "end", "()I"⟩
abbrev cSh_openPoint : ByteArray := prog_11_method_8_code
def ySh_openPoint : MethodName := ⟨RSh, "openPoint", "(I)V"⟩
abbrev cSh_anotherRow : ByteArray := prog_11_method_9_code
def ySh_anotherRow : MethodName := ⟨RSh, "anotherRow", "()V"⟩
abbrev cSh_compare : ByteArray := prog_11_method_10_code
def ySh_compare : MethodName := ⟨RSh, "compare", "(LExchangeHouse$Log;)Z"⟩
abbrev cSh_chooseNext : ByteArray := prog_11_method_11_code
def ySh_chooseNext : MethodName := ⟨RSh, "chooseNext", "()Z"⟩
abbrev cSh_codeOf : ByteArray := prog_11_method_12_code
def ySh_codeOf : MethodName := ⟨RSh, "codeOf", "(III)J"⟩
abbrev cSh_gather : ByteArray := prog_11_method_13_code
def ySh_gather : MethodName := ⟨RSh, "gather", "(LExchangeHouse$Log;)V"⟩
abbrev cSh_isKept : ByteArray := prog_11_method_14_code
def ySh_isKept : MethodName := ⟨RSh, "isKept", "()Z"⟩
abbrev cSh_isKeptBy : ByteArray := prog_11_method_15_code
def ySh_isKeptBy : MethodName := ⟨RSh, "isKeptBy", "(I)Z"⟩
abbrev cSh_did : ByteArray := prog_11_method_16_code
def ySh_did : MethodName := ⟨RSh, "did", "(IIJ)Z"⟩
abbrev cSh_numberOf : ByteArray := prog_11_method_17_code
def ySh_numberOf : MethodName := ⟨RSh, "numberOf", "(I)I"⟩
abbrev cSh_isChosen : ByteArray := prog_11_method_18_code
def ySh_isChosen : MethodName := ⟨RSh, "isChosen", "(I)Z"⟩
abbrev cTk_init : ByteArray := prog_12_method_1_code
def yTk_init : MethodName := ⟨RTk, "<init>", "()V"⟩
abbrev cTk_learn : ByteArray := prog_12_method_2_code
def yTk_learn : MethodName := ⟨RTk, "learn", "(Ljava/lang/String;I)I"⟩
abbrev cTk_symbol : ByteArray := prog_12_method_3_code
def yTk_symbol : MethodName := ⟨RTk, "symbol", "(I)I"⟩
abbrev cTk_read : ByteArray := prog_12_method_4_code
def yTk_read : MethodName := ⟨RTk, "read", "([BI)V"⟩
abbrev cTk_byteAt : ByteArray := prog_12_method_5_code
def yTk_byteAt : MethodName := ⟨RTk, "byteAt", "(I)I"⟩
abbrev cTk_gap : ByteArray := prog_12_method_6_code
def yTk_gap : MethodName := ⟨RTk, "gap", "(I)I"⟩
abbrev cTk_token : ByteArray := prog_12_method_7_code
def yTk_token : MethodName := ⟨RTk, "token", "(II)I"⟩
abbrev cTk_word : ByteArray := prog_12_method_8_code
def yTk_word : MethodName := ⟨RTk, "word", "(II)I"⟩
abbrev cTk_wordKind : ByteArray := prog_12_method_9_code
def yTk_wordKind : MethodName := ⟨RTk, "wordKind", "(J)I"⟩
abbrev cTk_digits : ByteArray := prog_12_method_10_code
def yTk_digits : MethodName := ⟨RTk, "digits", "(II)I"⟩
abbrev cTk_sign : ByteArray := prog_12_method_11_code
def yTk_sign : MethodName := ⟨RTk, "sign", "(II)I"⟩
abbrev cTk_pairKind : ByteArray := prog_12_method_12_code
def yTk_pairKind : MethodName := ⟨RTk, "pairKind", "(II)I"⟩
abbrev cTk_signKind : ByteArray := prog_12_method_13_code
def yTk_signKind : MethodName := ⟨RTk, "signKind", "(I)I"⟩
abbrev cTk_seen : ByteArray := prog_12_method_14_code
def yTk_seen : MethodName := ⟨RTk, "seen", "()I"⟩
abbrev cTk_take : ByteArray := prog_12_method_15_code
def yTk_take : MethodName := ⟨RTk, "take", "(I)Z"⟩
abbrev cTk_enter : ByteArray := prog_12_method_16_code
def yTk_enter : MethodName := ⟨RTk, "enter", "(I)Z"⟩
abbrev cTk_need : ByteArray := prog_12_method_17_code
def yTk_need : MethodName := ⟨RTk, "need", "(I)V"⟩
abbrev cTk_fail : ByteArray := prog_12_method_18_code
def yTk_fail : MethodName := ⟨RTk, "fail", "(II)V"⟩
abbrev cTk_blame : ByteArray := prog_12_method_19_code
def yTk_blame : MethodName := ⟨RTk, "blame", "(II)V"⟩
abbrev cTk_fault : ByteArray := prog_12_method_20_code
def yTk_fault : MethodName := ⟨RTk, "fault", "()I"⟩
abbrev cTk_faultPlace : ByteArray := prog_12_method_21_code
def yTk_faultPlace : MethodName := ⟨RTk, "faultPlace", "()I"⟩
abbrev cE_init : ByteArray := prog_1_method_1_code
def yE_init : MethodName := ⟨RE, "<init>", "()V"⟩
abbrev cE_feed : ByteArray := prog_1_method_2_code
def yE_feed : MethodName := ⟨RE, "feed", "(IIIII)Z"⟩
abbrev cE_write : ByteArray := prog_1_method_3_code
def yE_write : MethodName := ⟨RE, "write", "(I)V"⟩
abbrev cE_load : ByteArray := prog_1_method_4_code
def yE_load : MethodName := ⟨RE, "load", "(I)I"⟩
abbrev cE_place : ByteArray := prog_1_method_5_code
def yE_place : MethodName := ⟨RE, "place", "()I"⟩
abbrev cE_warning : ByteArray := prog_1_method_6_code
def yE_warning : MethodName := ⟨RE, "warning", "(II)I"⟩
abbrev cE_begin : ByteArray := prog_1_method_7_code
def yE_begin : MethodName := ⟨RE, "begin", "(I)I"⟩
abbrev cE_run : ByteArray := prog_1_method_8_code
def yE_run : MethodName := ⟨RE, "run", "(I)I"⟩
abbrev cE_go : ByteArray := prog_1_method_9_code
def yE_go : MethodName := ⟨RE, "go", "(I)I"⟩
abbrev cE_none : ByteArray := prog_1_method_10_code
def yE_none : MethodName := ⟨RE, "none", "(II)I"⟩
abbrev cE_wait : ByteArray := prog_1_method_11_code
def yE_wait : MethodName := ⟨RE, "wait", "(I)I"⟩
abbrev cE_put : ByteArray := prog_1_method_12_code
def yE_put : MethodName := ⟨RE, "put", "(IIIII)I"⟩
abbrev cE_alive : ByteArray := prog_1_method_13_code
def yE_alive : MethodName := ⟨RE, "alive", "(I)I"⟩
abbrev cE_slot : ByteArray := prog_1_method_14_code
def yE_slot : MethodName := ⟨RE, "slot", "(I)I"⟩
abbrev cE_instance : ByteArray := prog_1_method_15_code
def yE_instance : MethodName := ⟨RE, "instance", "(II)I"⟩
abbrev cE_cell : ByteArray := prog_1_method_16_code
def yE_cell : MethodName := ⟨RE, "cell", "(II)I"⟩
abbrev cE_timer : ByteArray := prog_1_method_17_code
def yE_timer : MethodName := ⟨RE, "timer", "(II)I"⟩
abbrev cE_queued : ByteArray := prog_1_method_18_code
def yE_queued : MethodName := ⟨RE, "queued", "(III)I"⟩
abbrev cE_way : ByteArray := prog_1_method_19_code
def yE_way : MethodName := ⟨RE, "way", "(III)I"⟩
abbrev cE_out : ByteArray := prog_1_method_20_code
def yE_out : MethodName := ⟨RE, "out", "(II)I"⟩
abbrev cE_event : ByteArray := prog_1_method_21_code
def yE_event : MethodName := ⟨RE, "event", "(II)I"⟩
abbrev cE_count : ByteArray := prog_1_method_22_code
def yE_count : MethodName := ⟨RE, "count", "(I)I"⟩
abbrev cE_systemCount : ByteArray := prog_1_method_23_code
def yE_systemCount : MethodName := ⟨RE, "systemCount", "(I)I"⟩
abbrev cE_runCount : ByteArray := prog_1_method_24_code
def yE_runCount : MethodName := ⟨RE, "runCount", "(I)I"⟩
abbrev cE_type : ByteArray := prog_1_method_25_code
def yE_type : MethodName := ⟨RE, "type", "(II)I"⟩
abbrev cE_search : ByteArray := prog_1_method_26_code
def yE_search : MethodName := ⟨RE, "search", "(I)I"⟩
abbrev cE_state : ByteArray := prog_1_method_27_code
def yE_state : MethodName := ⟨RE, "state", "(II)I"⟩
abbrev cE_first : ByteArray := prog_1_method_28_code
def yE_first : MethodName := ⟨RE, "first", "(III)I"⟩
abbrev cE_visit : ByteArray := prog_1_method_29_code
def yE_visit : MethodName := ⟨RE, "visit", "(I)I"⟩
abbrev cE_chart : ByteArray := prog_1_method_30_code
def yE_chart : MethodName := ⟨RE, "chart", "(I)I"⟩
abbrev cE_choices : ByteArray := prog_1_method_31_code
def yE_choices : MethodName := ⟨RE, "choices", "(I)I"⟩
abbrev cM_init : ByteArray := prog_14_method_1_code
def yM_init : MethodName := ⟨RM, "<init>", "()V"⟩
abbrev cM_feed : ByteArray := prog_14_method_2_code
def yM_feed : MethodName := ⟨RM, "feed", "(IIIII)Z"⟩
abbrev cM_four : ByteArray := prog_14_method_3_code
def yM_four : MethodName := ⟨RM, "four", "(I)V"⟩
abbrev cM_toText : ByteArray := prog_14_method_4_code
def yM_toText : MethodName := ⟨RM, "toText", "(I)V"⟩
abbrev cM_isLetter : ByteArray := prog_14_method_5_code
def yM_isLetter : MethodName := ⟨RM, "isLetter", "(I)Z"⟩
abbrev cM_isDigit : ByteArray := prog_14_method_6_code
def yM_isDigit : MethodName := ⟨RM, "isDigit", "(I)Z"⟩
abbrev cM_code : ByteArray := prog_14_method_7_code
def yM_code : MethodName := ⟨RM, "code", "(I)I"⟩
abbrev cM_byteAt : ByteArray := prog_14_method_8_code
def yM_byteAt : MethodName := ⟨RM, "byteAt", "(I)I"⟩
abbrev cM_token : ByteArray := prog_14_method_9_code
def yM_token : MethodName := ⟨RM, "token", "(IIJ)V"⟩
abbrev cM_cut : ByteArray := prog_14_method_10_code
def yM_cut : MethodName := ⟨RM, "cut", "()V"⟩
abbrev cM_behindBlanks : ByteArray := prog_14_method_11_code
def yM_behindBlanks : MethodName := ⟨RM, "behindBlanks", "(I)I"⟩
abbrev cM_one : ByteArray := prog_14_method_12_code
def yM_one : MethodName := ⟨RM, "one", "(I)I"⟩
abbrev cM_nameFrom : ByteArray := prog_14_method_13_code
def yM_nameFrom : MethodName := ⟨RM, "nameFrom", "(I)I"⟩
abbrev cM_numberFrom : ByteArray := prog_14_method_14_code
def yM_numberFrom : MethodName := ⟨RM, "numberFrom", "(I)I"⟩
abbrev cM_breaks : ByteArray := prog_14_method_15_code
def yM_breaks : MethodName := ⟨RM, "breaks", "(II)V"⟩
abbrev cM_wrong : ByteArray := prog_14_method_16_code
def yM_wrong : MethodName := ⟨RM, "wrong", "()V"⟩
abbrev cM_note : ByteArray := prog_14_method_17_code
def yM_note : MethodName := ⟨RM, "note", "(II)V"⟩
abbrev cM_stops : ByteArray := prog_14_method_18_code
def yM_stops : MethodName := ⟨RM, "stops", "()Z"⟩
abbrev cM_isSign : ByteArray := prog_14_method_19_code
def yM_isSign : MethodName := ⟨RM, "isSign", "(I)Z"⟩
abbrev cM_isWord : ByteArray := prog_14_method_20_code
def yM_isWord : MethodName := ⟨RM, "isWord", "(I)Z"⟩
abbrev cM_take : ByteArray := prog_14_method_21_code
def yM_take : MethodName := ⟨RM, "take", "()V"⟩
abbrev cM_maySign : ByteArray := prog_14_method_22_code
def yM_maySign : MethodName := ⟨RM, "maySign", "(I)Z"⟩
abbrev cM_mayWord : ByteArray := prog_14_method_23_code
def yM_mayWord : MethodName := ⟨RM, "mayWord", "(I)Z"⟩
abbrev cM_sign : ByteArray := prog_14_method_24_code
def yM_sign : MethodName := ⟨RM, "sign", "(I)V"⟩
abbrev cM_word : ByteArray := prog_14_method_25_code
def yM_word : MethodName := ⟨RM, "word", "(I)V"⟩
abbrev cM_name : ByteArray := prog_14_method_26_code
def yM_name : MethodName := ⟨RM, "name", "()I"⟩
abbrev cM_number : ByteArray := prog_14_method_27_code
def yM_number : MethodName := ⟨RM, "number", "()I"⟩
abbrev cM_bounded : ByteArray := prog_14_method_28_code
def yM_bounded : MethodName := ⟨RM, "bounded", "(I)I"⟩
abbrev cM_opens : ByteArray := prog_14_method_29_code
def yM_opens : MethodName := ⟨RM, "opens", "()V"⟩
abbrev cM_openSign : ByteArray := prog_14_method_30_code
def yM_openSign : MethodName := ⟨RM, "openSign", "(I)V"⟩
abbrev cM_closeSign : ByteArray := prog_14_method_31_code
def yM_closeSign : MethodName := ⟨RM, "closeSign", "(I)V"⟩
abbrev cM_signalOf : ByteArray := prog_14_method_32_code
def yM_signalOf : MethodName := ⟨RM, "signalOf", "(J)I"⟩
abbrev cM_routeOf : ByteArray := prog_14_method_33_code
def yM_routeOf : MethodName := ⟨RM, "routeOf", "(J)I"⟩
abbrev cM_typeOf : ByteArray := prog_14_method_34_code
def yM_typeOf : MethodName := ⟨RM, "typeOf", "(J)I"⟩
abbrev cM_variableOf : ByteArray := prog_14_method_35_code
def yM_variableOf : MethodName := ⟨RM, "variableOf", "(IJ)I"⟩
abbrev cM_timerOf : ByteArray := prog_14_method_36_code
def yM_timerOf : MethodName := ⟨RM, "timerOf", "(IJ)I"⟩
abbrev cM_stateOf : ByteArray := prog_14_method_37_code
def yM_stateOf : MethodName := ⟨RM, "stateOf", "(IJ)I"⟩
abbrev cM_labelOf : ByteArray := prog_14_method_38_code
def yM_labelOf : MethodName := ⟨RM, "labelOf", "(IJ)I"⟩
abbrev cM_global : ByteArray := prog_14_method_39_code
def yM_global : MethodName := ⟨RM, "global", "(I)V"⟩
abbrev cM_sort : ByteArray := prog_14_method_40_code
def yM_sort : MethodName := ⟨RM, "sort", "()I"⟩
abbrev cM_system : ByteArray := prog_14_method_41_code
def yM_system : MethodName := ⟨RM, "system", "()V"⟩
abbrev cM_signals : ByteArray := prog_14_method_42_code
def yM_signals : MethodName := ⟨RM, "signals", "()V"⟩
abbrev cM_sorts : ByteArray := prog_14_method_43_code
def yM_sorts : MethodName := ⟨RM, "sorts", "(I)V"⟩
abbrev cM_side : ByteArray := prog_14_method_44_code
def yM_side : MethodName := ⟨RM, "side", "()J"⟩
abbrev cM_routeLine : ByteArray := prog_14_method_45_code
def yM_routeLine : MethodName := ⟨RM, "routeLine", "(I)V"⟩
abbrev cM_resolve : ByteArray := prog_14_method_46_code
def yM_resolve : MethodName := ⟨RM, "resolve", "()V"⟩
abbrev cM_process : ByteArray := prog_14_method_47_code
def yM_process : MethodName := ⟨RM, "process", "(I)V"⟩
abbrev cM_pars : ByteArray := prog_14_method_48_code
def yM_pars : MethodName := ⟨RM, "pars", "()I"⟩
abbrev cM_variable : ByteArray := prog_14_method_49_code
def yM_variable : MethodName := ⟨RM, "variable", "(II)V"⟩
abbrev cM_own : ByteArray := prog_14_method_50_code
def yM_own : MethodName := ⟨RM, "own", "(I)V"⟩
abbrev cM_holds : ByteArray := prog_14_method_51_code
def yM_holds : MethodName := ⟨RM, "holds", "(IIII)V"⟩
abbrev cM_declarations : ByteArray := prog_14_method_52_code
def yM_declarations : MethodName := ⟨RM, "declarations", "(I)V"⟩
abbrev cM_declared : ByteArray := prog_14_method_53_code
def yM_declared : MethodName := ⟨RM, "declared", "(I)V"⟩
abbrev cM_timerLine : ByteArray := prog_14_method_54_code
def yM_timerLine : MethodName := ⟨RM, "timerLine", "(I)V"⟩
abbrev cM_stateLine : ByteArray := prog_14_method_55_code
def yM_stateLine : MethodName := ⟨RM, "stateLine", "()V"⟩
abbrev cM_stateHere : ByteArray := prog_14_method_56_code
def yM_stateHere : MethodName := ⟨RM, "stateHere", "(I)I"⟩
abbrev cM_stim : ByteArray := prog_14_method_57_code
def yM_stim : MethodName := ⟨RM, "stim", "(II)I"⟩
abbrev cM_endStim : ByteArray := prog_14_method_58_code
def yM_endStim : MethodName := ⟨RM, "endStim", "(I)V"⟩
abbrev cM_input : ByteArray := prog_14_method_59_code
def yM_input : MethodName := ⟨RM, "input", "(I)V"⟩
abbrev cM_save : ByteArray := prog_14_method_60_code
def yM_save : MethodName := ⟨RM, "save", "(I)V"⟩
abbrev cM_heard : ByteArray := prog_14_method_61_code
def yM_heard : MethodName := ⟨RM, "heard", "(IIZ)V"⟩
abbrev cM_again : ByteArray := prog_14_method_62_code
def yM_again : MethodName := ⟨RM, "again", "(III)V"⟩
abbrev cM_valuesOf : ByteArray := prog_14_method_63_code
def yM_valuesOf : MethodName := ⟨RM, "valuesOf", "(III)V"⟩
abbrev cM_into : ByteArray := prog_14_method_64_code
def yM_into : MethodName := ⟨RM, "into", "(IIIII)V"⟩
abbrev cM_when : ByteArray := prog_14_method_65_code
def yM_when : MethodName := ⟨RM, "when", "(I)V"⟩
abbrev cM_emit : ByteArray := prog_14_method_66_code
def yM_emit : MethodName := ⟨RM, "emit", "(II)I"⟩
abbrev cM_isLabel : ByteArray := prog_14_method_67_code
def yM_isLabel : MethodName := ⟨RM, "isLabel", "()Z"⟩
abbrev cM_isAct : ByteArray := prog_14_method_68_code
def yM_isAct : MethodName := ⟨RM, "isAct", "()Z"⟩
abbrev cM_isLast : ByteArray := prog_14_method_69_code
def yM_isLast : MethodName := ⟨RM, "isLast", "()Z"⟩
abbrev cM_isRange : ByteArray := prog_14_method_70_code
def yM_isRange : MethodName := ⟨RM, "isRange", "()Z"⟩
abbrev cM_trans : ByteArray := prog_14_method_71_code
def yM_trans : MethodName := ⟨RM, "trans", "(ZI)V"⟩
abbrev cM_label : ByteArray := prog_14_method_72_code
def yM_label : MethodName := ⟨RM, "label", "(I)V"⟩
abbrev cM_last : ByteArray := prog_14_method_73_code
def yM_last : MethodName := ⟨RM, "last", "(I)V"⟩
abbrev cM_next : ByteArray := prog_14_method_74_code
def yM_next : MethodName := ⟨RM, "next", "(II)V"⟩
abbrev cM_act : ByteArray := prog_14_method_75_code
def yM_act : MethodName := ⟨RM, "act", "()V"⟩
abbrev cM_timerNamed : ByteArray := prog_14_method_76_code
def yM_timerNamed : MethodName := ⟨RM, "timerNamed", "()I"⟩
abbrev cM_assign : ByteArray := prog_14_method_77_code
def yM_assign : MethodName := ⟨RM, "assign", "(I)V"⟩
abbrev cM_output : ByteArray := prog_14_method_78_code
def yM_output : MethodName := ⟨RM, "output", "(I)V"⟩
abbrev cM_create : ByteArray := prog_14_method_79_code
def yM_create : MethodName := ⟨RM, "create", "(I)V"⟩
abbrev cM_values : ByteArray := prog_14_method_80_code
def yM_values : MethodName := ⟨RM, "values", "(IIII)V"⟩
abbrev cM_fourth : ByteArray := prog_14_method_81_code
def yM_fourth : MethodName := ⟨RM, "fourth", "()V"⟩
abbrev cM_decide : ByteArray := prog_14_method_82_code
def yM_decide : MethodName := ⟨RM, "decide", "()V"⟩
abbrev cM_branch : ByteArray := prog_14_method_83_code
def yM_branch : MethodName := ⟨RM, "branch", "()V"⟩
abbrev cM_range : ByteArray := prog_14_method_84_code
def yM_range : MethodName := ⟨RM, "range", "(II)V"⟩
abbrev cM_bound : ByteArray := prog_14_method_85_code
def yM_bound : MethodName := ⟨RM, "bound", "()I"⟩
abbrev cM_behindPart : ByteArray := prog_14_method_86_code
def yM_behindPart : MethodName := ⟨RM, "behindPart", "()V"⟩
abbrev cM_wanted : ByteArray := prog_14_method_87_code
def yM_wanted : MethodName := ⟨RM, "wanted", "(I)I"⟩
abbrev cM_put : ByteArray := prog_14_method_88_code
def yM_put : MethodName := ⟨RM, "put", "(II)V"⟩
abbrev cM_operand : ByteArray := prog_14_method_89_code
def yM_operand : MethodName := ⟨RM, "operand", "(IIZ)V"⟩
abbrev cM_expression : ByteArray := prog_14_method_90_code
def yM_expression : MethodName := ⟨RM, "expression", "()V"⟩
abbrev cM_lastBracket : ByteArray := prog_14_method_91_code
def yM_lastBracket : MethodName := ⟨RM, "lastBracket", "()I"⟩
abbrev cM_hold : ByteArray := prog_14_method_92_code
def yM_hold : MethodName := ⟨RM, "hold", "(II)V"⟩
abbrev cM_bracket : ByteArray := prog_14_method_93_code
def yM_bracket : MethodName := ⟨RM, "bracket", "(II)V"⟩
abbrev cM_start : ByteArray := prog_14_method_94_code
def yM_start : MethodName := ⟨RM, "start", "()Z"⟩
abbrev cM_told : ByteArray := prog_14_method_95_code
def yM_told : MethodName := ⟨RM, "told", "(I)Z"⟩
abbrev cM_named : ByteArray := prog_14_method_96_code
def yM_named : MethodName := ⟨RM, "named", "(I)Z"⟩
abbrev cM_prefixes : ByteArray := prog_14_method_97_code
def yM_prefixes : MethodName := ⟨RM, "prefixes", "()V"⟩
abbrev cM_asks : ByteArray := prog_14_method_98_code
def yM_asks : MethodName := ⟨RM, "asks", "(II)Z"⟩
abbrev cM_closes : ByteArray := prog_14_method_99_code
def yM_closes : MethodName := ⟨RM, "closes", "()V"⟩
abbrev cM_level : ByteArray := prog_14_method_100_code
def yM_level : MethodName := ⟨RM, "level", "()I"⟩
abbrev cM_signHere : ByteArray := prog_14_method_101_code
def yM_signHere : MethodName := ⟨RM, "signHere", "()I"⟩
abbrev cM_levelOf : ByteArray := prog_14_method_102_code
def yM_levelOf : MethodName := ⟨RM, "levelOf", "(I)I"⟩
abbrev cM_between : ByteArray := prog_14_method_103_code
def yM_between : MethodName := ⟨RM, "between", "(I)V"⟩
abbrev cM_reduce : ByteArray := prog_14_method_104_code
def yM_reduce : MethodName := ⟨RM, "reduce", "(I)V"⟩
abbrev cM_parse : ByteArray := prog_14_method_105_code
def yM_parse : MethodName := ⟨RM, "parse", "()Z"⟩
abbrev cM_load : ByteArray := prog_14_method_106_code
def yM_load : MethodName := ⟨RM, "load", "(I)I"⟩
abbrev cM_place : ByteArray := prog_14_method_107_code
def yM_place : MethodName := ⟨RM, "place", "()I"⟩
abbrev cM_warnOf : ByteArray := prog_14_method_108_code
def yM_warnOf : MethodName := ⟨RM, "warnOf", "(II)V"⟩
abbrev cM_warn : ByteArray := prog_14_method_109_code
def yM_warn : MethodName := ⟨RM, "warn", "()V"⟩
abbrev cM_come : ByteArray := prog_14_method_110_code
def yM_come : MethodName := ⟨RM, "come", "(I)V"⟩
abbrev cM_warning : ByteArray := prog_14_method_111_code
def yM_warning : MethodName := ⟨RM, "warning", "(II)I"⟩
abbrev cM_base : ByteArray := prog_14_method_112_code
def yM_base : MethodName := ⟨RM, "base", "(I)I"⟩
abbrev cM_slotOf : ByteArray := prog_14_method_113_code
def yM_slotOf : MethodName := ⟨RM, "slotOf", "(I)I"⟩
abbrev cM_row : ByteArray := prog_14_method_114_code
def yM_row : MethodName := ⟨RM, "row", "(I)I"⟩
abbrev cM_write : ByteArray := prog_14_method_115_code
def yM_write : MethodName := ⟨RM, "write", "(IIII)V"⟩
abbrev cM_lose : ByteArray := prog_14_method_116_code
def yM_lose : MethodName := ⟨RM, "lose", "(III)V"⟩
abbrev cM_arrive : ByteArray := prog_14_method_117_code
def yM_arrive : MethodName := ⟨RM, "arrive", "(III)V"⟩
abbrev cM_writeOut : ByteArray := prog_14_method_118_code
def yM_writeOut : MethodName := ⟨RM, "writeOut", "(II)V"⟩
abbrev cM_queue : ByteArray := prog_14_method_119_code
def yM_queue : MethodName := ⟨RM, "queue", "(III)Z"⟩
abbrev cM_unqueue : ByteArray := prog_14_method_120_code
def yM_unqueue : MethodName := ⟨RM, "unqueue", "(II)V"⟩
abbrev cM_send : ByteArray := prog_14_method_121_code
def yM_send : MethodName := ⟨RM, "send", "(IIII)V"⟩
abbrev cM_timeOn : ByteArray := prog_14_method_122_code
def yM_timeOn : MethodName := ⟨RM, "timeOn", "(II)I"⟩
abbrev cM_firstOf : ByteArray := prog_14_method_123_code
def yM_firstOf : MethodName := ⟨RM, "firstOf", "(I)V"⟩
abbrev cM_timerComes : ByteArray := prog_14_method_124_code
def yM_timerComes : MethodName := ⟨RM, "timerComes", "(II)V"⟩
abbrev cM_due : ByteArray := prog_14_method_125_code
def yM_due : MethodName := ⟨RM, "due", "()V"⟩
abbrev cM_make : ByteArray := prog_14_method_126_code
def yM_make : MethodName := ⟨RM, "make", "(II)I"⟩
abbrev cM_stop : ByteArray := prog_14_method_127_code
def yM_stop : MethodName := ⟨RM, "stop", "(I)V"⟩
abbrev cM_fail : ByteArray := prog_14_method_128_code
def yM_fail : MethodName := ⟨RM, "fail", "(III)V"⟩
abbrev cM_work : ByteArray := prog_14_method_129_code
def yM_work : MethodName := ⟨RM, "work", "(II)I"⟩
abbrev cM_push : ByteArray := prog_14_method_130_code
def yM_push : MethodName := ⟨RM, "push", "(I)V"⟩
abbrev cM_formStep : ByteArray := prog_14_method_131_code
def yM_formStep : MethodName := ⟨RM, "formStep", "(III)V"⟩
abbrev cM_two : ByteArray := prog_14_method_132_code
def yM_two : MethodName := ⟨RM, "two", "(III)V"⟩
abbrev cM_isSo : ByteArray := prog_14_method_133_code
def yM_isSo : MethodName := ⟨RM, "isSo", "(III)Z"⟩
abbrev cM_isActive : ByteArray := prog_14_method_134_code
def yM_isActive : MethodName := ⟨RM, "isActive", "(II)Z"⟩
abbrev cM_perform : ByteArray := prog_14_method_135_code
def yM_perform : MethodName := ⟨RM, "perform", "(II)V"⟩
abbrev cM_goal : ByteArray := prog_14_method_136_code
def yM_goal : MethodName := ⟨RM, "goal", "(II)I"⟩
abbrev cM_does : ByteArray := prog_14_method_137_code
def yM_does : MethodName := ⟨RM, "does", "(II)I"⟩
abbrev cM_assigns : ByteArray := prog_14_method_138_code
def yM_assigns : MethodName := ⟨RM, "assigns", "(II)I"⟩
abbrev cM_unset : ByteArray := prog_14_method_139_code
def yM_unset : MethodName := ⟨RM, "unset", "(II)V"⟩
abbrev cM_workAll : ByteArray := prog_14_method_140_code
def yM_workAll : MethodName := ⟨RM, "workAll", "(II)I"⟩
abbrev cM_makes : ByteArray := prog_14_method_141_code
def yM_makes : MethodName := ⟨RM, "makes", "(II)I"⟩
abbrev cM_sends : ByteArray := prog_14_method_142_code
def yM_sends : MethodName := ⟨RM, "sends", "(II)I"⟩
abbrev cM_route : ByteArray := prog_14_method_143_code
def yM_route : MethodName := ⟨RM, "route", "(IIIZ)I"⟩
abbrev cM_least : ByteArray := prog_14_method_144_code
def yM_least : MethodName := ⟨RM, "least", "(I)I"⟩
abbrev cM_isTrue : ByteArray := prog_14_method_145_code
def yM_isTrue : MethodName := ⟨RM, "isTrue", "(II)Z"⟩
abbrev cM_listed : ByteArray := prog_14_method_146_code
def yM_listed : MethodName := ⟨RM, "listed", "(III)Z"⟩
abbrev cM_stepOf : ByteArray := prog_14_method_147_code
def yM_stepOf : MethodName := ⟨RM, "stepOf", "(I)I"⟩
abbrev cM_step : ByteArray := prog_14_method_148_code
def yM_step : MethodName := ⟨RM, "step", "(II)V"⟩
abbrev cM_begin : ByteArray := prog_14_method_149_code
def yM_begin : MethodName := ⟨RM, "begin", "(I)I"⟩
abbrev cM_run : ByteArray := prog_14_method_150_code
def yM_run : MethodName := ⟨RM, "run", "(I)I"⟩
abbrev cM_ready : ByteArray := prog_14_method_151_code
def yM_ready : MethodName := ⟨RM, "ready", "()I"⟩
abbrev cM_leastTime : ByteArray := prog_14_method_152_code
def yM_leastTime : MethodName := ⟨RM, "leastTime", "()I"⟩
abbrev cM_go : ByteArray := prog_14_method_153_code
def yM_go : MethodName := ⟨RM, "go", "(I)I"⟩
abbrev cM_freely : ByteArray := prog_14_method_154_code
def yM_freely : MethodName := ⟨RM, "freely", "(II)I"⟩
abbrev cM_spontaneous : ByteArray := prog_14_method_155_code
def yM_spontaneous : MethodName := ⟨RM, "spontaneous", "(II)V"⟩
abbrev cM_none : ByteArray := prog_14_method_156_code
def yM_none : MethodName := ⟨RM, "none", "(II)I"⟩
abbrev cM_wait : ByteArray := prog_14_method_157_code
def yM_wait : MethodName := ⟨RM, "wait", "(I)I"⟩
abbrev cM_put_ : ByteArray := prog_14_method_158_code
def yM_put_ : MethodName := ⟨RM, "put", "(IIIII)I"⟩
abbrev cM_slotAsked : ByteArray := prog_14_method_159_code
def yM_slotAsked : MethodName := ⟨RM, "slotAsked", "(I)I"⟩
abbrev cM_alive : ByteArray := prog_14_method_160_code
def yM_alive : MethodName := ⟨RM, "alive", "(I)I"⟩
abbrev cM_instance : ByteArray := prog_14_method_161_code
def yM_instance : MethodName := ⟨RM, "instance", "(II)I"⟩
abbrev cM_cell : ByteArray := prog_14_method_162_code
def yM_cell : MethodName := ⟨RM, "cell", "(II)I"⟩
abbrev cM_timer : ByteArray := prog_14_method_163_code
def yM_timer : MethodName := ⟨RM, "timer", "(II)I"⟩
abbrev cM_queued : ByteArray := prog_14_method_164_code
def yM_queued : MethodName := ⟨RM, "queued", "(III)I"⟩
abbrev cM_way : ByteArray := prog_14_method_165_code
def yM_way : MethodName := ⟨RM, "way", "(III)I"⟩
abbrev cM_out : ByteArray := prog_14_method_166_code
def yM_out : MethodName := ⟨RM, "out", "(II)I"⟩
abbrev cM_event : ByteArray := prog_14_method_167_code
def yM_event : MethodName := ⟨RM, "event", "(II)I"⟩
abbrev cM_count : ByteArray := prog_14_method_168_code
def yM_count : MethodName := ⟨RM, "count", "(I)I"⟩
abbrev cM_counted : ByteArray := prog_14_method_169_code
def yM_counted : MethodName := ⟨RM, "counted", "(I)I"⟩
abbrev cM_type : ByteArray := prog_14_method_170_code
def yM_type : MethodName := ⟨RM, "type", "(II)I"⟩
abbrev cM_load1 : ByteArray := prog_14_method_171_code
def yM_load1 : MethodName := ⟨RM, "load1", "(I)V"⟩
abbrev cM_plain : ByteArray := prog_14_method_172_code
def yM_plain : MethodName := ⟨RM, "plain", "()V"⟩
abbrev cM_sum : ByteArray := prog_14_method_173_code
def yM_sum : MethodName := ⟨RM, "sum", "()I"⟩
abbrev cM_isState : ByteArray := prog_14_method_174_code
def yM_isState : MethodName := ⟨RM, "isState", "(II)Z"⟩
abbrev cM_keep : ByteArray := prog_14_method_175_code
def yM_keep : MethodName := ⟨RM, "keep", "(III)V"⟩
abbrev cM_moved : ByteArray := prog_14_method_176_code
def yM_moved : MethodName := ⟨RM, "moved", "(I)V"⟩
abbrev cM_tries : ByteArray := prog_14_method_177_code
def yM_tries : MethodName := ⟨RM, "tries", "(I)V"⟩
abbrev cM_stepsOf : ByteArray := prog_14_method_178_code
def yM_stepsOf : MethodName := ⟨RM, "stepsOf", "(I)V"⟩
abbrev cM_arrivalsOf : ByteArray := prog_14_method_179_code
def yM_arrivalsOf : MethodName := ⟨RM, "arrivalsOf", "(I)V"⟩
abbrev cM_timersOf : ByteArray := prog_14_method_180_code
def yM_timersOf : MethodName := ⟨RM, "timersOf", "(I)V"⟩
abbrev cM_freeOf : ByteArray := prog_14_method_181_code
def yM_freeOf : MethodName := ⟨RM, "freeOf", "(I)V"⟩
abbrev cM_search : ByteArray := prog_14_method_182_code
def yM_search : MethodName := ⟨RM, "search", "(I)I"⟩
abbrev cM_state : ByteArray := prog_14_method_183_code
def yM_state : MethodName := ⟨RM, "state", "(II)I"⟩
abbrev cM_first : ByteArray := prog_14_method_184_code
def yM_first : MethodName := ⟨RM, "first", "(III)I"⟩
abbrev cM_waitsAny : ByteArray := prog_14_method_185_code
def yM_waitsAny : MethodName := ⟨RM, "waitsAny", "(I)Z"⟩
abbrev cM_isIn : ByteArray := prog_14_method_186_code
def yM_isIn : MethodName := ⟨RM, "isIn", "(III)Z"⟩
abbrev cM_visit : ByteArray := prog_14_method_187_code
def yM_visit : MethodName := ⟨RM, "visit", "(I)I"⟩
abbrev cM_chartText : ByteArray := prog_14_method_188_code
def yM_chartText : MethodName := ⟨RM, "chartText", "()V"⟩
abbrev cM_instOf : ByteArray := prog_14_method_189_code
def yM_instOf : MethodName := ⟨RM, "instOf", "(J)I"⟩
abbrev cM_inst : ByteArray := prog_14_method_190_code
def yM_inst : MethodName := ⟨RM, "inst", "()V"⟩
abbrev cM_party : ByteArray := prog_14_method_191_code
def yM_party : MethodName := ⟨RM, "party", "()I"⟩
abbrev cM_line : ByteArray := prog_14_method_192_code
def yM_line : MethodName := ⟨RM, "line", "()V"⟩
abbrev cM_block : ByteArray := prog_14_method_193_code
def yM_block : MethodName := ⟨RM, "block", "()V"⟩
abbrev cM_orRow : ByteArray := prog_14_method_194_code
def yM_orRow : MethodName := ⟨RM, "orRow", "()V"⟩
abbrev cM_isChosen : ByteArray := prog_14_method_195_code
def yM_isChosen : MethodName := ⟨RM, "isChosen", "(I)Z"⟩
abbrev cM_isNamed : ByteArray := prog_14_method_196_code
def yM_isNamed : MethodName := ⟨RM, "isNamed", "(I)Z"⟩
abbrev cM_nextEvent : ByteArray := prog_14_method_197_code
def yM_nextEvent : MethodName := ⟨RM, "nextEvent", "(II)I"⟩
abbrev cM_isNext : ByteArray := prog_14_method_198_code
def yM_isNext : MethodName := ⟨RM, "isNext", "(IIII)Z"⟩
abbrev cM_keeps : ByteArray := prog_14_method_199_code
def yM_keeps : MethodName := ⟨RM, "keeps", "(I)Z"⟩
abbrev cM_allKeep : ByteArray := prog_14_method_200_code
def yM_allKeep : MethodName := ⟨RM, "allKeep", "()Z"⟩
abbrev cM_changes : ByteArray := prog_14_method_201_code
def yM_changes : MethodName := ⟨RM, "changes", "()Z"⟩
abbrev cM_judge : ByteArray := prog_14_method_202_code
def yM_judge : MethodName := ⟨RM, "judge", "()V"⟩
abbrev cM_chart : ByteArray := prog_14_method_203_code
def yM_chart : MethodName := ⟨RM, "chart", "(I)I"⟩
abbrev cM_choices : ByteArray := prog_14_method_204_code
def yM_choices : MethodName := ⟨RM, "choices", "(I)I"⟩
abbrev cJ9_max_7cf53 : ByteArray := prog_16_method_65_code
def yJ9_max_7cf53 : MethodName := ⟨RJ9, "max", "(II)I"⟩
abbrev cJ9_min_7cf53 : ByteArray := prog_16_method_69_code
def yJ9_min_7cf53 : MethodName := ⟨RJ9, "min", "(II)I"⟩
abbrev cJ9_min_f86c9 : ByteArray := prog_16_method_70_code
def yJ9_min_f86c9 : MethodName := ⟨RJ9, "min", "(JJ)J"⟩
abbrev cJ0_length_8abf5 : ByteArray := prog_17_method_54_code
def yJ0_length_8abf5 : MethodName := ⟨RJ0, "length", "()I"⟩
abbrev cJ0_charAt_5068e : ByteArray := prog_17_method_56_code
def yJ0_charAt_5068e : MethodName := ⟨RJ0, "charAt", "(I)C"⟩
abbrev cJ0_coder_7d493 : ByteArray := prog_17_method_152_code
def yJ0_coder_7d493 : MethodName := ⟨RJ0, "coder", "()B"⟩
abbrev cJ0_isLatin1_aae02 : ByteArray := prog_17_method_154_code
def yJ0_isLatin1_aae02 : MethodName := ⟨RJ0, "isLatin1", "()Z"⟩
abbrev cJ0_checkIndex_df160 : ByteArray := prog_17_method_155_code
def yJ0_checkIndex_df160 : MethodName := ⟨RJ0, "checkIndex", "(II)V"⟩
abbrev cJ1_charAt_3b067 : ByteArray := prog_18_method_2_code
def yJ1_charAt_3b067 : MethodName := ⟨RJ1, "charAt", "([BI)C"⟩
abbrev cJ2_getChar_3b067 : ByteArray := prog_19_method_5_code
def yJ2_getChar_3b067 : MethodName := ⟨RJ2, "getChar", "([BI)C"⟩
abbrev cJ2_length_9d52b : ByteArray := prog_19_method_6_code
def yJ2_length_9d52b : MethodName := ⟨RJ2, "length", "([B)I"⟩
abbrev cJ2_charAt_3b067 : ByteArray := prog_19_method_83_code
def yJ2_charAt_3b067 : MethodName := ⟨RJ2, "charAt", "([BI)C"⟩
abbrev cJ2_checkIndex_2214a : ByteArray := prog_19_method_91_code
def yJ2_checkIndex_2214a : MethodName := ⟨RJ2, "checkIndex", "(I[B)V"⟩
abbrev cJ7_rangeCheck_23922 : ByteArray := prog_21_method_30_code
def yJ7_rangeCheck_23922 : MethodName := ⟨RJ7, "rangeCheck", "(III)V"⟩
abbrev cJ7_fill_53178 : ByteArray := prog_21_method_103_code
def yJ7_fill_53178 : MethodName := ⟨RJ7, "fill", "([II)V"⟩
abbrev cJ7_fill_fda19 : ByteArray := prog_21_method_104_code
def yJ7_fill_fda19 : MethodName := ⟨RJ7, "fill", "([IIII)V"⟩
abbrev cJ7_copyOf_59c91 : ByteArray := prog_21_method_123_code
def yJ7_copyOf_59c91 : MethodName := ⟨RJ7, "copyOf", "([II)[I"⟩
abbrev cJ3_checkIndex_8e157 : ByteArray := prog_22_method_11_code
def yJ3_checkIndex_8e157 : MethodName := ⟨RJ3, "checkIndex", "(IILjava/util/function/BiFunction;)I"⟩
abbrev vwCl : List vw_C := [(RM, TM, 190), (RE, TE, 12), (RTk, TTk, 12), (RPa, TPa, 6), (RJu, TJu, 10), (RPl, TPl, 20), (RKd, TKd, 17), (RNa, TNa, 3), (RLo, TLo, 14), (RNe, TNe, 17), (RRu, TRu, 16), (RSe, TSe, 18), (RSh, TSh, 19)]
end
section
/-! the base: every method has all of the tables' words; contracts over worlds; entry, return, calls -/
/-- the tables' words but those on String constants -/
def tb : List Cond := lw_tbl.filter goodWord
theorem tm {w : Cond} (i : Nat) (h : lw_tbl[i]? = some w) (hg : goodWord w = true) : w ∈ tb := List.mem_filter.mpr ⟨List.mem_of_getElem? h, hg⟩
abbrev aw (y : MethodName) (b : ByteArray) (n : Nat) (r : Option FieldType) : List Cond := Cond.code y b n r :: tb
theorem tb_g {w : Cond} (h : w ∈ tb) : (w.onTables && w.keeps) = true ∨ ∃ ty, w = .arrayClass ty := good_of_word (List.mem_filter.mp h).2
theorem aw_in {y : MethodName} {b : ByteArray} {n : Nat} {r : Option FieldType} (h : Cond.code y b n r ∈ tb) : GoodIn tb (aw y b n r) := by
  intro w hw
  have hm : w ∈ tb := by
    rcases List.mem_cons.mp hw with e | e
    · rw [e]; exact h
    · exact e
  exact ⟨hm, tb_g hm⟩
theorem aw_v {own : String} {idx : Nat} {C : String} {y : MethodName} {b : ByteArray} {n : Nat} {r : Option FieldType} (h1 : Cond.methodLink own idx y ∈ tb) (h2 : Cond.instanceMethod y ∈ tb) (h3 : Cond.selects C y y ∈ tb) (h4 : Cond.initialized C ∈ tb) (h5 : Cond.code y b n r ∈ tb) : GoodIn tb (wsV own idx C y (aw y b n r)) := by
  intro w hw
  unfold wsV at hw
  rcases List.mem_append.mp hw with q | q
  · have hm : w ∈ tb := by
      simp only [List.mem_cons, List.not_mem_nil, or_false] at q
      rcases q with rfl | rfl | rfl | rfl <;> assumption
    exact ⟨hm, tb_g hm⟩
  · exact aw_in h5 w q
theorem aw_s {own : String} {idx : Nat} {y : MethodName} {b : ByteArray} {n : Nat} {r : Option FieldType} (h1 : Cond.methodLink own idx y ∈ tb) (h2 : Cond.static y ∈ tb) (h4 : Cond.initialized own ∈ tb) (h5 : Cond.code y b n r ∈ tb) : GoodIn tb (wsS own idx y (aw y b n r)) := by
  intro w hw
  unfold wsS at hw
  rcases List.mem_append.mp hw with q | q
  · have hm : w ∈ tb := by
      simp only [List.mem_cons, List.not_mem_nil, or_false] at q
      rcases q with rfl | rfl | rfl <;> assumption
    exact ⟨hm, tb_g hm⟩
  · exact aw_in h5 w q
/-- class numbers, slots, and the array classes: 0 byte, 1 int, 2 long, 3 boolean, 4 Kind -/
abbrev GG : Type := (Nat → ClassId) × (Nat → Nat → Nat) × (Nat → ClassId)
abbrev gT (g : GG) : List (ClassId × FieldType) := [(g.2.2 0, .byte), (g.2.2 1, .int), (g.2.2 2, .long), (g.2.2 3, .boolean), (g.2.2 4, .object "ExchangeHouse$Kind")]
abbrev gK (g : GG) (U : State) : Prop := va_K (g.1, g.2.1) vwCl (gT g) U
abbrev gP (g : GG) (w : va_W) (H : Heap) : Prop := va_P (g.1, g.2.1) vwCl w H
def Cx (p : Program) (s : State) (m : MethodId) (c : Code) (cc : ByteArray) (nL : Nat) (own : String) (args : Array Value) (g : GG) : Prop := CallFix p m c cc nL s args tb own ∧ gK g s
def Hx (g : GG) (w : va_W) (A : Nat → Prop) (H0 H : Heap) (locs : List Loc) : Prop := gP g w H ∧ va_D A w ∧ va_S A H0 H locs ∧ ∀ q : Nat, H0.size ≤ q → A q
def gPre (g : GG) (w : va_W) (sz : Nat) : State → Prop := fun U => U.heap.size = sz ∧ gP g w U.heap ∧ gK g U ∧ va_D (fun _ => True) w
def gB {σ : Type} (g : GG) (wd : σ → va_W) (A : Nat → Prop) : σ → State → Prop := fun u t => gP g (wd u) t.heap ∧ gK g t ∧ va_D A (wd u)
/-- a method that answers an int (or boolean, byte, char, short) -/
def KI {σ : Type} (l : Launch) (y : MethodName) (b : ByteArray) (n : Nat) (r : Option FieldType) (rm : Room) (g : GG) (w : va_W) (wd : σ → va_W) (av : List Value) (post : Int32 → σ → Prop) : Prop :=
  ∀ sz : Nat, Met l y (aw y b n r) rm (va_Pc av (gPre g w sz)) (va_Qi post (gB g wd (va_A w sz)) (va_A w sz)) rm.cells rm.slots (va_A w sz)
def KL {σ : Type} (l : Launch) (y : MethodName) (b : ByteArray) (n : Nat) (r : Option FieldType) (rm : Room) (g : GG) (w : va_W) (wd : σ → va_W) (av : List Value) (post : Int64 → σ → Prop) : Prop :=
  ∀ sz : Nat, Met l y (aw y b n r) rm (va_Pc av (gPre g w sz)) (va_Ql post (gB g wd (va_A w sz)) (va_A w sz)) rm.cells rm.slots (va_A w sz)
def KV {σ : Type} (l : Launch) (y : MethodName) (b : ByteArray) (n : Nat) (rm : Room) (g : GG) (w : va_W) (wd : σ → va_W) (av : List Value) (post : σ → Prop) : Prop :=
  ∀ sz : Nat, Met l y (aw y b n none) rm (va_Pc av (gPre g w sz)) (va_Qv post (gB g wd (va_A w sz)) (va_A w sz)) rm.cells rm.slots (va_A w sz)
/-- rooms by depth: each call takes at most 40 words of locals -/
abbrev rD (d k n : Nat) : Room := { frames := d, cells := k, slots := n, locals := 40 * d }
/-- a call by invokevirtual (invokestatic): its words, its number of arguments -/
abbrev nPar (y : MethodName) (k : Nat) : Prop := y.cls ≠ "java/lang/invoke/MethodHandle" ∧ y.cls ≠ "java/lang/invoke/VarHandle" ∧ (parseMethodDescriptor y.desc).map (fun d => d.parameters.length) = some k
def OkV (own : String) (idx : Nat) (y : MethodName) (b : ByteArray) (n : Nat) (r : Option FieldType) (k : Nat) : Prop := GoodIn tb (wsV own idx y.cls y (aw y b n r)) ∧ nPar y k
def OkS (own : String) (idx : Nat) (y : MethodName) (b : ByteArray) (n : Nat) (r : Option FieldType) (k : Nat) : Prop := GoodIn tb (wsS own idx y (aw y b n r)) ∧ nPar y k
section Rows
variable {σ : Type} {p : Program} {l : Launch} {e : Env} {R : Room} {s : State} {m : MethodId} {args : Array Value} {below : List Frame} {meth : Method} {c : Code} {H H0 : Heap} {locs : List Loc} {cells slots : Nat} {Q : State → Prop}
variable {cc : ByteArray} {nL : Nat} {own : String} {g : GG} {A : Nat → Prop} {pc : Nat} {ls : Array Slot} {rest st : List Value}
variable {y : MethodName} {b : ByteArray} {n : Nat} {r : Option FieldType} {rm : Room} {w : va_W} {wd : σ → va_W} {av : List Value}
theorem KI.of {post : Int32 → σ → Prop} (hy : plainName y.cls = true) (hn : (lg_sl av).length ≤ n)
    (kk : ∀ (p : Program) (e : Env) (s : State) (m : MethodId) (below : List Frame) (meth : Method) (c : Code) (A : Nat → Prop) (ls : Array Slot), Cx p s m c b n y.cls av.toArray g → meth.sig.returnType = r → meth.locks = false → meth.name = y.name → Hx g w A s.heap s.heap [] → lv_has ls n (lv_args 0 av) →
      W p l e rm s m av.toArray below meth c s.heap [] 0 0 (MQ below (va_Qi post (gB g wd A) A) av.toArray s rm.cells rm.slots A) (F0 m 0 ls [])) : KI l y b n r rm g w wd av post := by
  intro sz
  refine Met.ofW (cc := b) (maxL := n) (ret := r) hy rfl ?_
  intro p e s m args below meth c s₁ B hml hv
  obtain ⟨rfl, hsz, hP, hK, hD0⟩ := hv
  have hts := atoms_spec (ws := aw y b n r) B.pre
  have hown : s.vm.findClass y.cls = some m.cls := findClass_of_methodNamed B.named
  subst hsz
  have hl := lv_entry av (n := n) hn
  rw [lg_entry_eq]
  exact kk p e s m below meth c _ _ ⟨⟨B.exec, B.bytes, hml, hown, fun w h => hts w (List.mem_cons_of_mem _ h)⟩, hK⟩ B.returns B.notSynchronized (name_of_methodNamed B.named B.method).1 ⟨hP, hD0.self, va_S.rf, fun q h => Or.inr h⟩ hl
theorem KL.of {post : Int64 → σ → Prop} (hy : plainName y.cls = true) (hn : (lg_sl av).length ≤ n)
    (kk : ∀ (p : Program) (e : Env) (s : State) (m : MethodId) (below : List Frame) (meth : Method) (c : Code) (A : Nat → Prop) (ls : Array Slot), Cx p s m c b n y.cls av.toArray g → meth.sig.returnType = r → meth.locks = false → meth.name = y.name → Hx g w A s.heap s.heap [] → lv_has ls n (lv_args 0 av) →
      W p l e rm s m av.toArray below meth c s.heap [] 0 0 (MQ below (va_Ql post (gB g wd A) A) av.toArray s rm.cells rm.slots A) (F0 m 0 ls [])) : KL l y b n r rm g w wd av post := by
  intro sz
  refine Met.ofW (cc := b) (maxL := n) (ret := r) hy rfl ?_
  intro p e s m args below meth c s₁ B hml hv
  obtain ⟨rfl, hsz, hP, hK, hD0⟩ := hv
  have hts := atoms_spec (ws := aw y b n r) B.pre
  have hown : s.vm.findClass y.cls = some m.cls := findClass_of_methodNamed B.named
  subst hsz
  have hl := lv_entry av (n := n) hn
  rw [lg_entry_eq]
  exact kk p e s m below meth c _ _ ⟨⟨B.exec, B.bytes, hml, hown, fun w h => hts w (List.mem_cons_of_mem _ h)⟩, hK⟩ B.returns B.notSynchronized (name_of_methodNamed B.named B.method).1 ⟨hP, hD0.self, va_S.rf, fun q h => Or.inr h⟩ hl
theorem KV.of {post : σ → Prop} (hy : plainName y.cls = true) (hn : (lg_sl av).length ≤ n)
    (kk : ∀ (p : Program) (e : Env) (s : State) (m : MethodId) (below : List Frame) (meth : Method) (c : Code) (A : Nat → Prop) (ls : Array Slot), Cx p s m c b n y.cls av.toArray g → meth.sig.returnType = none → meth.locks = false → meth.name = y.name → Hx g w A s.heap s.heap [] → lv_has ls n (lv_args 0 av) →
      W p l e rm s m av.toArray below meth c s.heap [] 0 0 (MQ below (va_Qv post (gB g wd A) A) av.toArray s rm.cells rm.slots A) (F0 m 0 ls [])) : KV l y b n rm g w wd av post := by
  intro sz
  refine Met.ofW (cc := b) (maxL := n) (ret := none) hy rfl ?_
  intro p e s m args below meth c s₁ B hml hv
  obtain ⟨rfl, hsz, hP, hK, hD0⟩ := hv
  have hts := atoms_spec (ws := aw y b n none) B.pre
  have hown : s.vm.findClass y.cls = some m.cls := findClass_of_methodNamed B.named
  subst hsz
  have hl := lv_entry av (n := n) hn
  rw [lg_entry_eq]
  exact kk p e s m below meth c _ _ ⟨⟨B.exec, B.bytes, hml, hown, fun w h => hts w (List.mem_cons_of_mem _ h)⟩, hK⟩ B.returns B.notSynchronized (name_of_methodNamed B.named B.method).1 ⟨hP, hD0.self, va_S.rf, fun q h => Or.inr h⟩ hl
/-- ireturn -/
theorem KI.ret {post : Int32 → σ → Prop} {ty : FieldType} {v : Int32} (C : Cx p s m c cc nL own args g) (hr : meth.sig.returnType = some ty) (hlk : meth.locks = false) (u : σ) (h : Hx g (wd u) A s.heap H locs) (hn : narrow ty (.int v) = .int v) (hp : post v u) (hc : cells ≤ R.cells) (hs : slots ≤ R.slots) (hdg : decode cc pc = .ok (.ireturn, 1)) :
    W p l e R s m args below meth c H locs cells slots (MQ below (va_Qi post (gB g wd A) A) args s R.cells R.slots A) (F0 m pc ls [.int v]) := by
  refine W.widen hc hs ?_
  exact W.zret C.1.1 C.1.2.1 hr hn (fun t ht hW => ⟨⟨v, u, rfl, hp, by rw [ht]; exact h.1, va_K.moved hW.alike C.2, h.2.1⟩, h.2.2.1.F ht⟩) h.2.2.1.2.2 hdg hlk
/-- return -/
theorem KV.ret {post : σ → Prop} (C : Cx p s m c cc nL own args g) (hr : meth.sig.returnType = none) (hlk : meth.locks = false) (u : σ) (h : Hx g (wd u) A s.heap H locs) (hp : post u) (hc : cells ≤ R.cells) (hs : slots ≤ R.slots) (hdg : decode cc pc = .ok (.return_, 1)) :
    W p l e R s m args below meth c H locs cells slots (MQ below (va_Qv post (gB g wd A) A) args s R.cells R.slots A) (F0 m pc ls []) := by
  refine W.widen hc hs ?_
  exact W.vret C.1.1 C.1.2.1 hr (fun t ht hW => ⟨⟨u, rfl, hp, by rw [ht]; exact h.1, va_K.moved hW.alike C.2, h.2.1⟩, h.2.2.1.F ht⟩) h.2.2.1.2.2 hdg hlk
theorem Hx.free (h : Hx g w A H0 H locs) : ∀ q, va_A w H.size q → A q := by
  intro q hq
  rcases hq with ⟨k, e, hk⟩ | hq
  · exact h.2.1.2 k (q, e) hk
  · exact h.2.2.2 q (Nat.le_trans h.2.2.1.1 hq)
theorem gPre.blind {w : va_W} {sz : Nat} : FrameBlind (va_Pc av (gPre g w sz)) := by
  intro a U g' mk q
  obtain ⟨q0, q1, qP, qK, qD⟩ := q
  exact ⟨q0, q1, qP, va_K.moved (u := U) (U := U.calling g' mk a) (Vm.Alike.refl U.vm) qK, qD⟩
theorem gPre.at (C : Cx p s m c cc nL own args g) (h : Hx g w A H0 H locs) : ∀ U : State, U.heap = H → s.WarmedH U.vm → va_Pc av (gPre g w H.size) av.toArray U := fun U hU hW => ⟨rfl, by rw [hU], by rw [hU]; exact h.1, va_K.moved hW.alike C.2, h.2.1.weaken (fun _ _ _ _ => trivial)⟩
/-- invokevirtual of a method with an int answer, over the whole world -/
theorem KI.callV {post : Int32 → σ → Prop} {o q0 ci N idx : Nat} {T : u_T} {fs As : List Value} (C : Cx p s m c cc nL own args g) (h : Hx g w A H0 H locs) (hM : KI l y b n r rm g w wd (.ref o :: As) post) (hG : OkV own idx y b n r As.length) (hR : rm.frames + 1 ≤ R.frames ∧ 8 + (n + 11) + rm.locals ≤ R.locals)
    (hrec : w[q0]? = some (o, .inr (ci, fs))) (hcl : vwCl[ci]? = some (y.cls, T, N)) (hls : ls.size = nL) (hst : st = As.reverse ++ .ref o :: rest) (hrm : (rest.map fun v => v.category).sum ≤ 8) (hdg : decode cc pc = .ok (.invokevirtual idx, 3)) (hf : cells + rm.cells ≤ R.cells ∧ slots + rm.slots ≤ R.slots)
    (kk : ∀ (v : Int32) (u : σ) (H1 : Heap) (locs1 : List Loc), post v u → Hx g (wd u) A H0 H1 locs1 → W p l e R s m args below meth c H1 locs1 (cells + rm.cells) (slots + rm.slots) Q (F0 m (pc + 3) ls (.int v :: rest))) :
    W p l e R s m args below meth c H locs cells slots Q (F0 m pc ls st) := by
  have hFc := h.free
  refine va_calli (va_runV (As := As) (rest := rest) C.1 (hM H.size) (cwV As.length C.1.2.2.2.2 hG.1 rfl rfl rfl ⟨rfl, hG.2⟩ hR) ⟨gPre.blind, va_recv C.2 h.1 hcl hrec, gPre.at C h⟩ rfl rfl hls hst (lv_room hrm) hdg hf) h.2.2.1 (fun q _ hq => hFc q hq) hFc (fun v u t H1 locs1 ht hvm hp hB hz hk hS => ?_)
  exact kk v u H1 locs1 hp ⟨by rw [← ht]; exact hB.1, hB.2.2.weaken (fun _ _ _ q => hFc _ q), hS, h.2.2.2⟩
theorem KV.callV {post : σ → Prop} {o q0 ci N idx : Nat} {T : u_T} {fs As : List Value} (C : Cx p s m c cc nL own args g) (h : Hx g w A H0 H locs) (hM : KV l y b n rm g w wd (.ref o :: As) post) (hG : OkV own idx y b n none As.length) (hR : rm.frames + 1 ≤ R.frames ∧ 8 + (n + 11) + rm.locals ≤ R.locals)
    (hrec : w[q0]? = some (o, .inr (ci, fs))) (hcl : vwCl[ci]? = some (y.cls, T, N)) (hls : ls.size = nL) (hst : st = As.reverse ++ .ref o :: rest) (hrm : (rest.map fun v => v.category).sum ≤ 8) (hdg : decode cc pc = .ok (.invokevirtual idx, 3)) (hf : cells + rm.cells ≤ R.cells ∧ slots + rm.slots ≤ R.slots)
    (kk : ∀ (u : σ) (H1 : Heap) (locs1 : List Loc), post u → Hx g (wd u) A H0 H1 locs1 → W p l e R s m args below meth c H1 locs1 (cells + rm.cells) (slots + rm.slots) Q (F0 m (pc + 3) ls rest)) :
    W p l e R s m args below meth c H locs cells slots Q (F0 m pc ls st) := by
  have hFc := h.free
  refine va_callv (va_runV (As := As) (rest := rest) C.1 (hM H.size) (cwV As.length C.1.2.2.2.2 hG.1 rfl rfl rfl ⟨rfl, hG.2⟩ hR) ⟨gPre.blind, va_recv C.2 h.1 hcl hrec, gPre.at C h⟩ rfl rfl hls hst (lv_room hrm) hdg hf) h.2.2.1 (fun q _ hq => hFc q hq) hFc (fun u t H1 locs1 ht hvm hp hB hz hk hS => ?_)
  exact kk u H1 locs1 hp ⟨by rw [← ht]; exact hB.1, hB.2.2.weaken (fun _ _ _ q => hFc _ q), hS, h.2.2.2⟩
end Rows
end
section
/-! the reference as a world: one object of 190 fields, 122 arrays -/
def mKind : List Nat := [0, 0, 0, 5, 5, 5, 5, 2, 1, 1, 2, 5, 5, 5, 5, 5, 5, 5, 5, 5, 2, 2, 2, 1, 1, 1, 2, 2, 1, 1, 1, 1, 1, 1, 3, 1, 1, 1, 1, 1, 1, 1, 1, 1, 1, 2, 2, 2, 2, 1, 1, 1, 1, 1, 1, 1, 1, 1, 5, 2, 1, 5, 5, 5, 1, 1, 1, 1, 1, 1, 1, 1, 1, 1, 1, 5, 5, 1, 1, 1, 1, 1, 1, 1, 1, 1, 1, 1, 1, 3, 5, 1, 1, 1, 1, 1, 1, 1, 1, 1, 3, 3, 5, 5, 5, 1, 1, 5, 5, 5, 1, 1, 5, 1, 1, 3, 5, 3, 5, 5, 5, 1, 1, 1, 3, 1, 5, 5, 5, 5, 5, 5, 5, 5, 5, 5, 5, 5, 5, 5, 1, 1, 5, 5, 5, 5, 1, 1, 5, 5, 1, 5, 5, 5, 1, 1, 1, 1, 1, 1, 1, 1, 1, 5, 5, 5, 5, 5, 5, 5, 5, 5, 5, 2, 1, 1, 1, 1, 1, 1, 1, 1, 1, 1, 1, 3, 5, 5, 5, 5]
def mLens : List Nat := [5000, 5000, 5000, 0, 0, 0, 0, 48, 1202, 1202, 1202, 0, 0, 0, 0, 0, 0, 0, 0, 0, 20, 10, 6, 20, 20, 60, 10, 10, 10, 10, 10, 10, 10, 10, 10, 6, 6, 6, 6, 6, 6, 6, 6, 6, 6, 48, 18, 72, 60, 48, 48, 48, 48, 18, 72, 60, 60, 60, 0, 36, 36, 0, 0, 0, 1300, 1300, 1300, 1300, 1300, 1300, 1300, 1300, 1300, 1300, 3900, 0, 0, 1300, 1300, 1300, 1300, 1300, 1300, 3900, 1300, 1300, 1300, 1300, 1300, 1300, 0, 1300, 1300, 1300, 1300, 14, 14, 14, 14, 14, 14, 14, 0, 0, 0, 3000, 3000, 0, 0, 0, 1240, 1240, 0, 1202, 1202, 1202, 0, 40, 0, 0, 0, 400, 400, 6, 1300, 1104, 0, 0, 0, 0, 0, 0, 0, 0, 0, 0, 0, 0, 0, 0, 2000, 1200, 0, 0, 0, 0, 3, 1202, 0, 0, 3, 0, 0, 0, 220800, 1104, 200, 200, 200, 200, 200, 200, 200, 0, 0, 0, 0, 0, 0, 0, 0, 0, 0, 8, 8, 40, 40, 40, 40, 120, 120, 6, 3, 3, 6, 6, 0, 0, 0, 0]
def mIx : List Nat := [9, 13, 16, 402, 409, 816, 819, 19, 23, 27, 30, 418, 450, 444, 447, 480, 457, 489, 492, 495, 33, 36, 39, 42, 45, 48, 51, 54, 57, 60, 63, 66, 69, 72, 75, 79, 82, 85, 88, 91, 94, 97, 100, 103, 106, 109, 112, 115, 118, 121, 124, 127, 130, 133, 136, 139, 142, 145, 498, 148, 151, 574, 510, 513, 154, 157, 160, 163, 166, 169, 172, 175, 178, 181, 184, 504, 519, 187, 190, 193, 196, 199, 202, 205, 208, 211, 214, 217, 220, 223, 516, 226, 229, 232, 235, 238, 241, 244, 247, 250, 253, 256, 655, 658, 507, 259, 262, 722, 725, 719, 265, 268, 752, 271, 274, 277, 746, 280, 755, 283, 831, 287, 290, 293, 296, 299, 822, 843, 877, 895, 1008, 907, 858, 913, 916, 919, 1011, 883, 855, 910, 302, 305, 849, 846, 874, 880, 308, 311, 925, 928, 314, 990, 996, 993, 318, 321, 324, 327, 330, 333, 336, 339, 342, 825, 1017, 1060, 1063, 1048, 1051, 1014, 1099, 1102, 1105, 345, 348, 351, 354, 357, 360, 363, 366, 369, 372, 375, 378, 381, 1108, 1148, 1151, 1132]
def mWi : List Nat := [2162, 2163, 2164, 2165, 2166, 2167, 2168, 2169, 2170, 2171, 2172, 2173, 2174, 2175, 2176, 2177, 2178, 2179, 2180, 2181, 2182, 2183, 2184, 2185, 2186, 2187, 2188, 2189, 2190, 2191, 2192, 2193, 2194, 2195, 2196, 2197, 2198, 2199, 2200, 2201, 2202, 2203, 2204, 2205, 2206, 2207, 2208, 2209, 2210, 2211, 2212, 2213, 2214, 2215, 2216, 2217, 2218, 2219, 2220, 2221, 2222, 2223, 2224, 2225, 2226, 2227, 2228, 2229, 2230, 2231, 2232, 2233, 2234, 2235, 2236, 2237, 2238, 2239, 2240, 2241, 2242, 2243, 2244, 2245, 2246, 2247, 2248, 2249, 2250, 2251, 2252, 2253, 2254, 2255, 2256, 2257, 2258, 2259, 2260, 2261, 2262, 2263, 2264, 2265, 2266, 2267, 2268, 2269, 2270, 2271, 2272, 2273, 2274, 2275, 2276, 2277, 2278, 2279, 2280, 2281, 2282, 2283, 2284, 2285, 2286, 2287, 2288, 2289, 2290, 2291, 2292, 2293, 2294, 2295, 2296, 2297, 2298, 2299, 2300, 2301, 2302, 2303, 2304, 2305, 2306, 2307, 2308, 2309, 2310, 2311, 2312, 2313, 2314, 2315, 2316, 2317, 2318, 2319, 2320, 2321, 2322, 2323, 2324, 2325, 2326, 2327, 2328, 2329, 2330, 2331, 2332, 2333, 2334, 2335, 2336, 2337, 2338, 2339, 2340, 2341, 2342, 2343, 2344, 2345, 2346, 2347, 2348, 2349, 2350, 2351]
def mLi : List Nat := [2352, 2354, 2356, 2358, 2360, 2362, 2364, 2366, 2368, 2370, 2372, 2374, 2376, 2378, 2380, 2382, 2384, 2386, 2388, 2390, 2392, 2394, 2396, 2398, 2400, 2402, 2404, 2406, 2408, 2410, 2412, 2414, 2416, 2418, 2420, 2422, 2424, 2426, 2428, 2430, 2432, 2434, 2436, 2438, 2440, 2442, 2444, 2446, 2448, 2450, 2452, 2454, 2456, 2458, 2460, 2462, 2464, 2466, 2468, 2470, 2472, 2474, 2476, 2478, 2480, 2482, 2484, 2486, 2488, 2490, 2492, 2494, 2496, 2498, 2500, 2502, 2504, 2506, 2508, 2510, 2512, 2514, 2516, 2518, 2520, 2522, 2524, 2526, 2528, 2530, 2532, 2534, 2536, 2538, 2540, 2542, 2544, 2546, 2548, 2550, 2552, 2554, 2556, 2558, 2560, 2562, 2564, 2566, 2568, 2570, 2572, 2574, 2576, 2578, 2580, 2582, 2584, 2586, 2588, 2590, 2592, 2594, 2596, 2598, 2600, 2602, 2604, 2606, 2608, 2610, 2612, 2614, 2616, 2618, 2620, 2622, 2624, 2626, 2628, 2630, 2632, 2634, 2636, 2638, 2640, 2642, 2644, 2646, 2648, 2650, 2652, 2654, 2656, 2658, 2660, 2662, 2664, 2666, 2668, 2670, 2672, 2674, 2676, 2678, 2680, 2682, 2684, 2686, 2688, 2690, 2692, 2694, 2696, 2698, 2700, 2702, 2704, 2706, 2708, 2710, 2712, 2714, 2716, 2718, 2720, 2722, 2724, 2726, 2728, 2730]
def mPs : List Nat := [0, 1, 2, 0, 0, 0, 0, 3, 4, 5, 6, 0, 0, 0, 0, 0, 0, 0, 0, 0, 7, 8, 9, 10, 11, 12, 13, 14, 15, 16, 17, 18, 19, 20, 21, 22, 23, 24, 25, 26, 27, 28, 29, 30, 31, 32, 33, 34, 35, 36, 37, 38, 39, 40, 41, 42, 43, 44, 0, 45, 46, 0, 0, 0, 47, 48, 49, 50, 51, 52, 53, 54, 55, 56, 57, 0, 0, 58, 59, 60, 61, 62, 63, 64, 65, 66, 67, 68, 69, 70, 0, 71, 72, 73, 74, 75, 76, 77, 78, 79, 80, 81, 0, 0, 0, 82, 83, 0, 0, 0, 84, 85, 0, 86, 87, 88, 0, 89, 0, 0, 0, 90, 91, 92, 93, 94, 0, 0, 0, 0, 0, 0, 0, 0, 0, 0, 0, 0, 0, 0, 95, 96, 0, 0, 0, 0, 97, 98, 0, 0, 99, 0, 0, 0, 100, 101, 102, 103, 104, 105, 106, 107, 108, 0, 0, 0, 0, 0, 0, 0, 0, 0, 0, 109, 110, 111, 112, 113, 114, 115, 116, 117, 118, 119, 120, 121, 0, 0, 0, 0]
def mArr : List Nat := [0, 1, 2, 7, 8, 9, 10, 20, 21, 22, 23, 24, 25, 26, 27, 28, 29, 30, 31, 32, 33, 34, 35, 36, 37, 38, 39, 40, 41, 42, 43, 44, 45, 46, 47, 48, 49, 50, 51, 52, 53, 54, 55, 56, 57, 59, 60, 64, 65, 66, 67, 68, 69, 70, 71, 72, 73, 74, 77, 78, 79, 80, 81, 82, 83, 84, 85, 86, 87, 88, 89, 91, 92, 93, 94, 95, 96, 97, 98, 99, 100, 101, 105, 106, 110, 111, 113, 114, 115, 117, 121, 122, 123, 124, 125, 140, 141, 146, 147, 150, 154, 155, 156, 157, 158, 159, 160, 161, 162, 173, 174, 175, 176, 177, 178, 179, 180, 181, 182, 183, 184, 185]
abbrev m_tape : Nat := 0
abbrev m_text : Nat := 1
abbrev m_good : Nat := 2
abbrev m_taped : Nat := 3
abbrev m_length : Nat := 4
abbrev m_goodLength : Nat := 5
abbrev m_there : Nat := 6
abbrev m_words : Nat := 7
abbrev m_tk : Nat := 8
abbrev m_tp : Nat := 9
abbrev m_tv : Nat := 10
abbrev m_many : Nat := 11
abbrev m_at : Nat := 12
abbrev m_fault : Nat := 13
abbrev m_faultAt : Nat := 14
abbrev m_open : Nat := 15
abbrev m_judges : Nat := 16
abbrev m_sigs : Nat := 17
abbrev m_routes : Nat := 18
abbrev m_types : Nat := 19
abbrev m_sName : Nat := 20
abbrev m_rName : Nat := 21
abbrev m_tName : Nat := 22
abbrev m_sAt : Nat := 23
abbrev m_sSorts : Nat := 24
abbrev m_sSort : Nat := 25
abbrev m_rFrom : Nat := 26
abbrev m_rTo : Nat := 27
abbrev m_rSource : Nat := 28
abbrev m_rGoal : Nat := 29
abbrev m_rLow : Nat := 30
abbrev m_rHigh : Nat := 31
abbrev m_rCarries : Nat := 32
abbrev m_rNames : Nat := 33
abbrev m_rTwo : Nat := 34
abbrev m_tAt : Nat := 35
abbrev m_tLow : Nat := 36
abbrev m_tHigh : Nat := 37
abbrev m_tPars : Nat := 38
abbrev m_tVars : Nat := 39
abbrev m_tCells : Nat := 40
abbrev m_tTimers : Nat := 41
abbrev m_tStates : Nat := 42
abbrev m_tLabels : Nat := 43
abbrev m_tStart : Nat := 44
abbrev m_vName : Nat := 45
abbrev m_mName : Nat := 46
abbrev m_stName : Nat := 47
abbrev m_lName : Nat := 48
abbrev m_vAt : Nat := 49
abbrev m_vSort : Nat := 50
abbrev m_vSize : Nat := 51
abbrev m_vCell : Nat := 52
abbrev m_mAt : Nat := 53
abbrev m_stAt : Nat := 54
abbrev m_lAt : Nat := 55
abbrev m_lGoal : Nat := 56
abbrev m_lTrans : Nat := 57
abbrev m_globals : Nat := 58
abbrev m_gName : Nat := 59
abbrev m_gAt : Nat := 60
abbrev m_type : Nat := 61
abbrev m_stims : Nat := 62
abbrev m_ins : Nat := 63
abbrev m_stType : Nat := 64
abbrev m_stKind : Nat := 65
abbrev m_stMask : Nat := 66
abbrev m_stPrio : Nat := 67
abbrev m_stIf : Nat := 68
abbrev m_stCode : Nat := 69
abbrev m_stFrom : Nat := 70
abbrev m_stTo : Nat := 71
abbrev m_inSignal : Nat := 72
abbrev m_inCount : Nat := 73
abbrev m_inVar : Nat := 74
abbrev m_codes : Nat := 75
abbrev m_transes : Nat := 76
abbrev m_op : Nat := 77
abbrev m_opAt : Nat := 78
abbrev m_opA : Nat := 79
abbrev m_opB : Nat := 80
abbrev m_opC : Nat := 81
abbrev m_opD : Nat := 82
abbrev m_opValue : Nat := 83
abbrev m_opValues : Nat := 84
abbrev m_trType : Nat := 85
abbrev m_trMask : Nat := 86
abbrev m_trNext : Nat := 87
abbrev m_trJoin : Nat := 88
abbrev m_trStart : Nat := 89
abbrev m_ranges : Nat := 90
abbrev m_rgLow : Nat := 91
abbrev m_rgHigh : Nat := 92
abbrev m_rgGoal : Nat := 93
abbrev m_rgNext : Nat := 94
abbrev m_dCode : Nat := 95
abbrev m_dMany : Nat := 96
abbrev m_dLatest : Nat := 97
abbrev m_dSort : Nat := 98
abbrev m_dJump : Nat := 99
abbrev m_dElse : Nat := 100
abbrev m_dEnds : Nat := 101
abbrev m_deep : Nat := 102
abbrev m_ends : Nat := 103
abbrev m_forms : Nat := 104
abbrev m_form : Nat := 105
abbrev m_formOf : Nat := 106
abbrev m_eSort : Nat := 107
abbrev m_eAt : Nat := 108
abbrev m_eBad : Nat := 109
abbrev m_oSign : Nat := 110
abbrev m_oToken : Nat := 111
abbrev m_signs : Nat := 112
abbrev m_wSort : Nat := 113
abbrev m_wAt : Nat := 114
abbrev m_wBad : Nat := 115
abbrev m_waits : Nat := 116
abbrev m_compares : Nat := 117
abbrev m_brackets : Nat := 118
abbrev m_place : Nat := 119
abbrev m_warnings : Nat := 120
abbrev m_warns : Nat := 121
abbrev m_warnsAt : Nat := 122
abbrev m_comeTo : Nat := 123
abbrev m_tells : Nat := 124
abbrev m_s : Nat := 125
abbrev m_runs : Nat := 126
abbrev m_quiet : Nat := 127
abbrev m_now : Nat := 128
abbrev m_seed : Nat := 129
abbrev m_latest : Nat := 130
abbrev m_madeInAll : Nat := 131
abbrev m_lostInAll : Nat := 132
abbrev m_errorsInAll : Nat := 133
abbrev m_lastError : Nat := 134
abbrev m_lastErrorAt : Nat := 135
abbrev m_steps : Nat := 136
abbrev m_outs : Nat := 137
abbrev m_lostNow : Nat := 138
abbrev m_errorsNow : Nat := 139
abbrev m_trace : Nat := 140
abbrev m_outRow : Nat := 141
abbrev m_traced : Nat := 142
abbrev m_tracedFirst : Nat := 143
abbrev m_outNext : Nat := 144
abbrev m_outKept : Nat := 145
abbrev m_given : Nat := 146
abbrev m_stack : Nat := 147
abbrev m_top : Nat := 148
abbrev m_formError : Nat := 149
abbrev m_worked : Nat := 150
abbrev m_stepStim : Nat := 151
abbrev m_stepItem : Nat := 152
abbrev m_stepIn : Nat := 153
abbrev m_all : Nat := 154
abbrev m_kept : Nat := 155
abbrev m_fFrom : Nat := 156
abbrev m_fMove : Nat := 157
abbrev m_fDeep : Nat := 158
abbrev m_fMoves : Nat := 159
abbrev m_fLost : Nat := 160
abbrev m_fErrors : Nat := 161
abbrev m_fSum : Nat := 162
abbrev m_found : Nat := 163
abbrev m_looked : Nat := 164
abbrev m_limit : Nat := 165
abbrev m_moves : Nat := 166
abbrev m_lostMoves : Nat := 167
abbrev m_errorMoves : Nat := 168
abbrev m_wasCut : Nat := 169
abbrev m_insts : Nat := 170
abbrev m_lines : Nat := 171
abbrev m_blocks : Nat := 172
abbrev m_iName : Nat := 173
abbrev m_iNumber : Nat := 174
abbrev m_liLeft : Nat := 175
abbrev m_liRight : Nat := 176
abbrev m_liSignal : Nat := 177
abbrev m_liDeep : Nat := 178
abbrev m_liBlock : Nat := 179
abbrev m_liRow : Nat := 180
abbrev m_bMany : Nat := 181
abbrev m_bOpen : Nat := 182
abbrev m_bRow : Nat := 183
abbrev m_bChoice : Nat := 184
abbrev m_bOpt : Nat := 185
abbrev m_within : Nat := 186
abbrev m_linesTold : Nat := 187
abbrev m_choicesKept : Nat := 188
abbrev m_eventsAt : Nat := 189
def mk (k : Nat) : Nat := mKind.getD k 5
def mln (k : Nat) : Nat := mLens.getD k 0
def mix (k : Nat) : Nat := mIx.getD k 0
def mps (k : Nat) : Nat := mPs.getD k 0
set_option maxRecDepth 100000 in
theorem mLink : ∀ k, k < 190 → lw_tbl[mWi.getD k 0]? = some (Cond.fieldLink RM (mix k) RM (TM k).2.1 (TM k).2.2.1) := by decide +kernel
set_option maxRecDepth 100000 in
theorem mLay : ∀ k, k < 190 → lw_tbl[mLi.getD k 0]? = some (u_lay RM TM k) ∧ goodWord (u_lay RM TM k) = true := by decide +kernel
theorem mOwn : ∀ k, k < 190 → (TM k).1 = RM := by decide +kernel
theorem mLinkIn (k : Nat) (hk : k < 190) : Cond.fieldLink RM (mix k) RM (TM k).2.1 (TM k).2.2.1 ∈ tb := tm _ (mLink k hk) rfl
theorem mLays : ∀ w ∈ u_ws RM TM 190, w ∈ tb := by
  intro w hw
  unfold u_ws at hw
  obtain ⟨k, hk, rfl⟩ := List.mem_map.mp hw
  have hk := List.mem_range.mp hk
  exact tm _ (mLay k hk).1 (mLay k hk).2
theorem mArr_at : ∀ k, k < 190 → mk k ≠ 5 → mArr[mps k]? = some k := by decide +kernel
theorem mArr_ps : ∀ i, i < 122 → mps (mArr.getD i 0) = i := by decide +kernel
theorem mArr_len : mArr.length = 122 := by decide +kernel
end
section
/-- what the reference holds: its numbers, its arrays of ints (bytes, booleans), its arrays of longs, by field -/
abbrev MS : Type := (Nat → Int32) × (Nat → Nat → Int32) × (Nat → Nat → Int64)
def mVal (ad : Nat → Nat) (M : MS) (k : Nat) : Value := if mk k = 5 then .int (M.1 k) else .ref (ad k)
def mObj (ad : Nat → Nat) (M : MS) : List Value := (List.range 190).map (mVal ad M)
def mCell (g : GG) (M : MS) (k : Nat) : va_E := if mk k = 2 then .inl (g.2.2 2, mln k, .inr (.inl (M.2.2 k))) else .inl (g.2.2 (mk k), mln k, .inl (M.2.1 k))
def mW (g : GG) (o : Nat) (ad : Nat → Nat) (M : MS) : va_W := (o, .inr (0, mObj ad M)) :: mArr.map (fun k => (ad k, mCell g M k))
def mput (M : MS) (k : Nat) (v : Int32) : MS := (va_up M.1 k v, M.2)
def mseti (M : MS) (k i : Nat) (x : Int32) : MS := (M.1, va_up M.2.1 k (upd (M.2.1 k) i x), M.2.2)
def msetj (M : MS) (k i : Nat) (x : Int64) : MS := (M.1, M.2.1, va_up M.2.2 k (vp_updL (M.2.2 k) i x))
theorem mObj_get {ad : Nat → Nat} {M : MS} {k : Nat} (hk : k < 190) : (mObj ad M)[k]? = some (mVal ad M k) := by simp [mObj, hk]
theorem mObj_set {ad : Nat → Nat} {M : MS} {k : Nat} (hs : mk k = 5) (v : Int32) : (mObj ad M).set k (.int v) = mObj ad (va_up M.1 k v, M.2) := by
  apply List.ext_getElem?
  intro i
  by_cases hi : i < 190
  · by_cases e : i = k
    · subst e
      rw [List.getElem?_set_self (by simp [mObj]; exact hi), mObj_get hi]
      simp [mVal, hs, va_up]
    · rw [List.getElem?_set_ne (Ne.symm e), mObj_get hi, mObj_get hi]
      simp [mVal, va_up, e]
  · rw [List.getElem?_eq_none (by simp [mObj]; omega), List.getElem?_eq_none (by simp [mObj]; omega)]
theorem mW_at {g : GG} {o : Nat} {ad : Nat → Nat} {M : MS} {k : Nat} (hk : k < 190) (h5 : mk k ≠ 5) : (mW g o ad M)[mps k + 1]? = some (ad k, mCell g M k) := by
  simp [mW, mArr_at k hk h5]
theorem mW_set {g : GG} {o : Nat} {ad : Nat → Nat} {M M' : MS} {k : Nat} (hk : k < 190) (h5 : mk k ≠ 5) {e : va_E} (h1 : M'.1 = M.1) (he : mCell g M' k = e) (hne : ∀ j, j ≠ k → mCell g M' j = mCell g M j) : (mW g o ad M).set (mps k + 1) (ad k, e) = mW g o ad M' := by
  have ho : mObj ad M' = mObj ad M := by unfold mObj mVal; rw [h1]
  unfold mW
  rw [ho, List.set_cons_succ]
  congr 1
  apply List.ext_getElem?
  intro i
  have ha := mArr_at k hk h5
  have hl : mps k < mArr.length := (List.getElem?_eq_some_iff.mp ha).1
  by_cases hi : i = mps k
  · subst hi
    rw [List.getElem?_set_self (by rw [List.length_map]; exact hl), List.getElem?_map, ha]
    simp [he]
  · rw [List.getElem?_set_ne (Ne.symm hi), List.getElem?_map, List.getElem?_map]
    by_cases hlt : i < mArr.length
    · have hj : mArr[i]? = some (mArr.getD i 0) := by rw [List.getD_eq_getElem?_getD, List.getElem?_eq_getElem hlt]; rfl
      have hp := mArr_ps i (by rw [← mArr_len]; exact hlt)
      rw [hj]
      have : mArr.getD i 0 ≠ k := fun z => hi (by rw [← hp, z])
      simp only [Option.map_some, hne _ this]
    · rw [List.getElem?_eq_none (by omega)]
      rfl
section MRows
variable {p : Program} {l : Launch} {e : Env} {R : Room} {s : State} {m : MethodId} {args : Array Value} {below : List Frame} {meth : Method} {c : Code} {H H0 : Heap} {locs : List Loc} {cells slots : Nat} {Q : State → Prop}
variable {cc : ByteArray} {nL : Nat} {g : GG} {A : Nat → Prop} {pc : Nat} {ls : Array Slot} {rest : List Value} {o : Nat} {ad : Nat → Nat} {M : MS}
/-- getfield of a number -/
theorem mgi (C : Cx p s m c cc nL RM args g) (h : Hx g (mW g o ad M) A H0 H locs) (k : Nat) (hk : k < 190) (hs : mk k = 5) {v : Int32} (hv : M.1 k = v) {ix : Nat} (hix : ix = mix k) (hdg : decode cc pc = .ok (.getfield ix, 3)) (kk : W p l e R s m args below meth c H locs cells slots Q (F0 m (pc + 3) ls (.int v :: rest))) : W p l e R s m args below meth c H locs cells slots Q (F0 m pc ls (.ref o :: rest)) := by
  subst hix
  subst hv
  exact va_get (D := (g.1, g.2.1)) (ci := 0) (v := .int (M.1 k)) (C := RM) (T := TM) (N := 190) (ref := RM) C.1.1 C.1.2.1 C.1.2.2.2.2 mLays C.1.2.2.2.1 C.2 h.1 0 rfl rfl k hk (C.1.2.2.2.2 _ (mLinkIn k hk)) (fun x hx => by rw [mOwn k hk] at hx; exact hx) (by rw [mObj_get hk]; simp [mVal, hs]) hdg kk
/-- getfield of an array -/
theorem mga (C : Cx p s m c cc nL RM args g) (h : Hx g (mW g o ad M) A H0 H locs) (k : Nat) (hk : k < 190) (hs : mk k ≠ 5) {ix : Nat} (hix : ix = mix k) (hdg : decode cc pc = .ok (.getfield ix, 3)) (kk : W p l e R s m args below meth c H locs cells slots Q (F0 m (pc + 3) ls (.ref (ad k) :: rest))) : W p l e R s m args below meth c H locs cells slots Q (F0 m pc ls (.ref o :: rest)) := by
  subst hix
  exact va_get (D := (g.1, g.2.1)) (ci := 0) (v := .ref (ad k)) (C := RM) (T := TM) (N := 190) (ref := RM) C.1.1 C.1.2.1 C.1.2.2.2.2 mLays C.1.2.2.2.1 C.2 h.1 0 rfl rfl k hk (C.1.2.2.2.2 _ (mLinkIn k hk)) (fun x hx => by rw [mOwn k hk] at hx; exact hx) (by rw [mObj_get hk]; simp [mVal, hs]) hdg kk
/-- putfield of a number -/
theorem mpi (C : Cx p s m c cc nL RM args g) (h : Hx g (mW g o ad M) A H0 H locs) (k : Nat) (hk : k < 190) (hs : mk k = 5) (hfin : (TM k).2.2.2 = false) {ix : Nat} (hix : ix = mix k) {v : Int32} (hn : narrow (tyM k) (.int v) = .int v) (hfit : fits (tyM k) (.int v) = true) (hdg : decode cc pc = .ok (.putfield ix, 3))
    (kk : ∀ (H1 : Heap) (locs1 : List Loc), Hx g (mW g o ad (mput M k v)) A H0 H1 locs1 → W p l e R s m args below meth c H1 locs1 cells slots Q (F0 m (pc + 3) ls rest)) : W p l e R s m args below meth c H locs cells slots Q (F0 m pc ls (.int v :: .ref o :: rest)) := by
  subst hix
  refine va_put (D := (g.1, g.2.1)) (ci := 0) (v := .int v) (ty := tyM k) (C := RM) (T := TM) (N := 190) (ref := RM) C.1.1 C.1.2.1 C.1.2.2.2.2 mLays tyM tyM_ok nmM C.1.2.2.2.1 C.2 h.1 h.2.1 h.2.2.1 0 rfl rfl k hk (C.1.2.2.2.2 _ (mLinkIn k hk)) (fun x hx => by rw [mOwn k hk] at hx; exact hx) hfin (tyM_ok k hk) hn hfit (by simp [mObj]; exact hk) hdg (fun H1 locs1 hP hD hS => ?_)
  have e1 : (mW g o ad M).set 0 (o, .inr (0, (mObj ad M).set k (.int v))) = mW g o ad (va_up M.1 k v, M.2) := by
    rw [mObj_set hs]; rfl
  rw [e1] at hP hD
  exact kk H1 locs1 ⟨hP, hD, hS, h.2.2.2⟩
theorem mc_i {g : GG} {M : MS} {k : Nat} (h : mk k = 1) : mCell g M k = .inl (g.2.2 1, mln k, .inl (M.2.1 k)) := by simp [mCell, h]
theorem mc_b {g : GG} {M : MS} {k : Nat} (h : mk k = 0) : mCell g M k = .inl (g.2.2 0, mln k, .inl (M.2.1 k)) := by simp [mCell, h]
theorem mc_z {g : GG} {M : MS} {k : Nat} (h : mk k = 3) : mCell g M k = .inl (g.2.2 3, mln k, .inl (M.2.1 k)) := by simp [mCell, h]
theorem mc_j {g : GG} {M : MS} {k : Nat} (h : mk k = 2) : mCell g M k = .inl (g.2.2 2, mln k, .inr (.inl (M.2.2 k))) := by simp [mCell, h]
theorem mn5 {k q : Nat} (h : mk k = q) (hq : q ≠ 5) : mk k ≠ 5 := by rw [h]; exact hq
/-- iaload, baload of bytes and of booleans, laload -/
theorem mai (C : Cx p s m c cc nL RM args g) (h : Hx g (mW g o ad M) A H0 H locs) (k : Nat) (hk : k < 190) (hs : mk k = 1) {i : Int32} (hin : vp_in i (mln k)) {v : Int32} (hv : M.2.1 k i.toNatClampNeg = v) (hdg : decode cc pc = .ok (.iaload, 1)) (kk : W p l e R s m args below meth c H locs cells slots Q (F0 m (pc + 1) ls (.int v :: rest))) : W p l e R s m args below meth c H locs cells slots Q (F0 m pc ls (.int i :: .ref (ad k) :: rest)) := by
  subst hv
  exact va_iald C.1.1 C.1.2.1 C.2 h.1 (mps k + 1) 1 (by rw [mW_at hk (mn5 hs (by decide)), mc_i hs]) rfl hin hdg kk
theorem mab (C : Cx p s m c cc nL RM args g) (h : Hx g (mW g o ad M) A H0 H locs) (k : Nat) (hk : k < 190) (hs : mk k = 0) {i : Int32} (hin : vp_in i (mln k)) {v : Int32} (hv : M.2.1 k i.toNatClampNeg = v) (hdg : decode cc pc = .ok (.baload, 1)) (kk : W p l e R s m args below meth c H locs cells slots Q (F0 m (pc + 1) ls (.int v :: rest))) : W p l e R s m args below meth c H locs cells slots Q (F0 m pc ls (.int i :: .ref (ad k) :: rest)) := by
  subst hv
  exact va_bald C.1.1 C.1.2.1 C.2 h.1 (mps k + 1) 0 (by rw [mW_at hk (mn5 hs (by decide)), mc_b hs]) rfl hin hdg kk
theorem maz (C : Cx p s m c cc nL RM args g) (h : Hx g (mW g o ad M) A H0 H locs) (k : Nat) (hk : k < 190) (hs : mk k = 3) {i : Int32} (hin : vp_in i (mln k)) {v : Int32} (hv : M.2.1 k i.toNatClampNeg = v) (hdg : decode cc pc = .ok (.baload, 1)) (kk : W p l e R s m args below meth c H locs cells slots Q (F0 m (pc + 1) ls (.int v :: rest))) : W p l e R s m args below meth c H locs cells slots Q (F0 m pc ls (.int i :: .ref (ad k) :: rest)) := by
  subst hv
  exact va_zald C.1.1 C.1.2.1 C.2 h.1 (mps k + 1) 3 (by rw [mW_at hk (mn5 hs (by decide)), mc_z hs]) rfl hin hdg kk
theorem maj (C : Cx p s m c cc nL RM args g) (h : Hx g (mW g o ad M) A H0 H locs) (k : Nat) (hk : k < 190) (hs : mk k = 2) {i : Int32} (hin : vp_in i (mln k)) {v : Int64} (hv : M.2.2 k i.toNatClampNeg = v) (hdg : decode cc pc = .ok (.laload, 1)) (kk : W p l e R s m args below meth c H locs cells slots Q (F0 m (pc + 1) ls (.long v :: rest))) : W p l e R s m args below meth c H locs cells slots Q (F0 m pc ls (.int i :: .ref (ad k) :: rest)) := by
  subst hv
  exact va_lald C.1.1 C.1.2.1 C.2 h.1 (mps k + 1) 2 (by rw [mW_at hk (mn5 hs (by decide)), mc_j hs]) rfl hin hdg kk
theorem mc_ne {g : GG} {M : MS} {k : Nat} (f : Nat → Int32) (j : Nat) (hj : j ≠ k) : mCell g (M.1, va_up M.2.1 k f, M.2.2) j = mCell g M j := by simp [mCell, va_up, hj]
theorem mc_neL {g : GG} {M : MS} {k : Nat} (f : Nat → Int64) (j : Nat) (hj : j ≠ k) : mCell g (M.1, M.2.1, va_up M.2.2 k f) j = mCell g M j := by simp [mCell, va_up, hj]
/-- iastore, bastore of bytes and of booleans, lastore -/
theorem msi (C : Cx p s m c cc nL RM args g) (h : Hx g (mW g o ad M) A H0 H locs) (k : Nat) (hk : k < 190) (hs : mk k = 1) {i x : Int32} (hin : vp_in i (mln k)) (hdg : decode cc pc = .ok (.iastore, 1))
    (kk : ∀ (H1 : Heap) (locs1 : List Loc), Hx g (mW g o ad (mseti M k i.toNatClampNeg x)) A H0 H1 locs1 → W p l e R s m args below meth c H1 locs1 cells slots Q (F0 m (pc + 1) ls rest)) : W p l e R s m args below meth c H locs cells slots Q (F0 m pc ls (.int x :: .int i :: .ref (ad k) :: rest)) := by
  refine va_iast C.1.1 C.1.2.1 C.2 h.1 h.2.1 h.2.2.1 (mps k + 1) 1 (by rw [mW_at hk (mn5 hs (by decide)), mc_i hs]) rfl hin hdg (fun H1 locs1 hP hD hS => ?_)
  rw [mW_set (M := M) (M' := (M.1, va_up M.2.1 k (upd (M.2.1 k) i.toNatClampNeg x), M.2.2)) hk (mn5 hs (by decide)) rfl (by rw [mc_i hs]; simp [va_up]) (mc_ne _)] at hP hD
  exact kk H1 locs1 ⟨hP, hD, hS, h.2.2.2⟩
theorem msb (C : Cx p s m c cc nL RM args g) (h : Hx g (mW g o ad M) A H0 H locs) (k : Nat) (hk : k < 190) (hs : mk k = 0) {i x : Int32} (hin : vp_in i (mln k)) (hdg : decode cc pc = .ok (.bastore, 1))
    (kk : ∀ (H1 : Heap) (locs1 : List Loc), Hx g (mW g o ad (mseti M k i.toNatClampNeg (vp_nar .byte x))) A H0 H1 locs1 → W p l e R s m args below meth c H1 locs1 cells slots Q (F0 m (pc + 1) ls rest)) : W p l e R s m args below meth c H locs cells slots Q (F0 m pc ls (.int x :: .int i :: .ref (ad k) :: rest)) := by
  refine va_bast C.1.1 C.1.2.1 C.2 h.1 h.2.1 h.2.2.1 (mps k + 1) 0 (by rw [mW_at hk (mn5 hs (by decide)), mc_b hs]) rfl hin hdg (fun H1 locs1 hP hD hS => ?_)
  rw [mW_set (M := M) (M' := (M.1, va_up M.2.1 k (upd (M.2.1 k) i.toNatClampNeg (vp_nar .byte x)), M.2.2)) hk (mn5 hs (by decide)) rfl (by rw [mc_b hs]; simp [va_up]) (mc_ne _)] at hP hD
  exact kk H1 locs1 ⟨hP, hD, hS, h.2.2.2⟩
theorem msz (C : Cx p s m c cc nL RM args g) (h : Hx g (mW g o ad M) A H0 H locs) (k : Nat) (hk : k < 190) (hs : mk k = 3) {i x : Int32} (hin : vp_in i (mln k)) (hdg : decode cc pc = .ok (.bastore, 1))
    (kk : ∀ (H1 : Heap) (locs1 : List Loc), Hx g (mW g o ad (mseti M k i.toNatClampNeg (vp_nar .boolean x))) A H0 H1 locs1 → W p l e R s m args below meth c H1 locs1 cells slots Q (F0 m (pc + 1) ls rest)) : W p l e R s m args below meth c H locs cells slots Q (F0 m pc ls (.int x :: .int i :: .ref (ad k) :: rest)) := by
  refine va_zast C.1.1 C.1.2.1 C.2 h.1 h.2.1 h.2.2.1 (mps k + 1) 3 (by rw [mW_at hk (mn5 hs (by decide)), mc_z hs]) rfl hin hdg (fun H1 locs1 hP hD hS => ?_)
  rw [mW_set (M := M) (M' := (M.1, va_up M.2.1 k (upd (M.2.1 k) i.toNatClampNeg (vp_nar .boolean x)), M.2.2)) hk (mn5 hs (by decide)) rfl (by rw [mc_z hs]; simp [va_up]) (mc_ne _)] at hP hD
  exact kk H1 locs1 ⟨hP, hD, hS, h.2.2.2⟩
theorem msj (C : Cx p s m c cc nL RM args g) (h : Hx g (mW g o ad M) A H0 H locs) (k : Nat) (hk : k < 190) (hs : mk k = 2) {i : Int32} {x : Int64} (hin : vp_in i (mln k)) (hdg : decode cc pc = .ok (.lastore, 1))
    (kk : ∀ (H1 : Heap) (locs1 : List Loc), Hx g (mW g o ad (msetj M k i.toNatClampNeg x)) A H0 H1 locs1 → W p l e R s m args below meth c H1 locs1 cells slots Q (F0 m (pc + 1) ls rest)) : W p l e R s m args below meth c H locs cells slots Q (F0 m pc ls (.long x :: .int i :: .ref (ad k) :: rest)) := by
  refine va_last C.1.1 C.1.2.1 C.2 h.1 h.2.1 h.2.2.1 (mps k + 1) 2 (by rw [mW_at hk (mn5 hs (by decide)), mc_j hs]) rfl hin hdg (fun H1 locs1 hP hD hS => ?_)
  rw [mW_set (M := M) (M' := (M.1, M.2.1, va_up M.2.2 k (vp_updL (M.2.2 k) i.toNatClampNeg x))) hk (mn5 hs (by decide)) rfl (by rw [mc_j hs]; simp [va_up]) (mc_neL _)] at hP hD
  exact kk H1 locs1 ⟨hP, hD, hS, h.2.2.2⟩
end MRows
end
section
theorem dJ0_length_8abf5_0 : decode cJ0_length_8abf5 0 = .ok (.aload_n 0, 1) := by decide +kernel
theorem dJ0_length_8abf5_1 : decode cJ0_length_8abf5 1 = .ok (.getfield 9, 3) := by decide +kernel
theorem dJ0_length_8abf5_4 : decode cJ0_length_8abf5 4 = .ok (.arraylength, 1) := by decide +kernel
theorem dJ0_length_8abf5_5 : decode cJ0_length_8abf5 5 = .ok (.aload_n 0, 1) := by decide +kernel
theorem dJ0_length_8abf5_6 : decode cJ0_length_8abf5 6 = .ok (.invokevirtual 335, 3) := by decide +kernel
theorem dJ0_length_8abf5_9 : decode cJ0_length_8abf5 9 = .ok (.ishr, 1) := by decide +kernel
theorem dJ0_length_8abf5_10 : decode cJ0_length_8abf5 10 = .ok (.ireturn, 1) := by decide +kernel
theorem dJ0_charAt_5068e_0 : decode cJ0_charAt_5068e 0 = .ok (.aload_n 0, 1) := by decide +kernel
theorem dJ0_charAt_5068e_1 : decode cJ0_charAt_5068e 1 = .ok (.invokevirtual 492, 3) := by decide +kernel
theorem dJ0_charAt_5068e_4 : decode cJ0_charAt_5068e 4 = .ok (.ifCond .eq 12, 3) := by decide +kernel
theorem dJ0_charAt_5068e_7 : decode cJ0_charAt_5068e 7 = .ok (.aload_n 0, 1) := by decide +kernel
theorem dJ0_charAt_5068e_8 : decode cJ0_charAt_5068e 8 = .ok (.getfield 9, 3) := by decide +kernel
theorem dJ0_charAt_5068e_11 : decode cJ0_charAt_5068e 11 = .ok (.iload_n 1, 1) := by decide +kernel
theorem dJ0_charAt_5068e_12 : decode cJ0_charAt_5068e 12 = .ok (.invokestatic 495, 3) := by decide +kernel
theorem dJ0_charAt_5068e_15 : decode cJ0_charAt_5068e 15 = .ok (.ireturn, 1) := by decide +kernel
theorem dJ0_charAt_5068e_16 : decode cJ0_charAt_5068e 16 = .ok (.aload_n 0, 1) := by decide +kernel
theorem dJ0_charAt_5068e_17 : decode cJ0_charAt_5068e 17 = .ok (.getfield 9, 3) := by decide +kernel
theorem dJ0_charAt_5068e_20 : decode cJ0_charAt_5068e 20 = .ok (.iload_n 1, 1) := by decide +kernel
theorem dJ0_charAt_5068e_21 : decode cJ0_charAt_5068e 21 = .ok (.invokestatic 498, 3) := by decide +kernel
theorem dJ0_charAt_5068e_24 : decode cJ0_charAt_5068e 24 = .ok (.ireturn, 1) := by decide +kernel
theorem dJ0_coder_7d493_0 : decode cJ0_coder_7d493 0 = .ok (.getstatic 38, 3) := by decide +kernel
theorem dJ0_coder_7d493_3 : decode cJ0_coder_7d493 3 = .ok (.ifCond .eq 10, 3) := by decide +kernel
theorem dJ0_coder_7d493_6 : decode cJ0_coder_7d493 6 = .ok (.aload_n 0, 1) := by decide +kernel
theorem dJ0_coder_7d493_7 : decode cJ0_coder_7d493 7 = .ok (.getfield 15, 3) := by decide +kernel
theorem dJ0_coder_7d493_10 : decode cJ0_coder_7d493 10 = .ok (.goto 4, 3) := by decide +kernel
theorem dJ0_coder_7d493_13 : decode cJ0_coder_7d493 13 = .ok (.iconst 1, 1) := by decide +kernel
theorem dJ0_coder_7d493_14 : decode cJ0_coder_7d493 14 = .ok (.ireturn, 1) := by decide +kernel
theorem dJ0_isLatin1_aae02_0 : decode cJ0_isLatin1_aae02 0 = .ok (.getstatic 38, 3) := by decide +kernel
theorem dJ0_isLatin1_aae02_3 : decode cJ0_isLatin1_aae02 3 = .ok (.ifCond .eq 14, 3) := by decide +kernel
theorem dJ0_isLatin1_aae02_6 : decode cJ0_isLatin1_aae02 6 = .ok (.aload_n 0, 1) := by decide +kernel
theorem dJ0_isLatin1_aae02_7 : decode cJ0_isLatin1_aae02 7 = .ok (.getfield 15, 3) := by decide +kernel
theorem dJ0_isLatin1_aae02_10 : decode cJ0_isLatin1_aae02 10 = .ok (.ifCond .ne 7, 3) := by decide +kernel
theorem dJ0_isLatin1_aae02_13 : decode cJ0_isLatin1_aae02 13 = .ok (.iconst 1, 1) := by decide +kernel
theorem dJ0_isLatin1_aae02_14 : decode cJ0_isLatin1_aae02 14 = .ok (.goto 4, 3) := by decide +kernel
theorem dJ0_isLatin1_aae02_17 : decode cJ0_isLatin1_aae02 17 = .ok (.iconst 0, 1) := by decide +kernel
theorem dJ0_isLatin1_aae02_18 : decode cJ0_isLatin1_aae02 18 = .ok (.ireturn, 1) := by decide +kernel
theorem dJ0_checkIndex_df160_0 : decode cJ0_checkIndex_df160 0 = .ok (.iload_n 0, 1) := by decide +kernel
theorem dJ0_checkIndex_df160_1 : decode cJ0_checkIndex_df160 1 = .ok (.iload_n 1, 1) := by decide +kernel
theorem dJ0_checkIndex_df160_2 : decode cJ0_checkIndex_df160 2 = .ok (.getstatic 1053, 3) := by decide +kernel
theorem dJ0_checkIndex_df160_5 : decode cJ0_checkIndex_df160 5 = .ok (.invokestatic 1059, 3) := by decide +kernel
theorem dJ0_checkIndex_df160_8 : decode cJ0_checkIndex_df160 8 = .ok (.pop, 1) := by decide +kernel
theorem dJ0_checkIndex_df160_9 : decode cJ0_checkIndex_df160 9 = .ok (.return_, 1) := by decide +kernel
theorem dJ1_charAt_3b067_0 : decode cJ1_charAt_3b067 0 = .ok (.iload_n 1, 1) := by decide +kernel
theorem dJ1_charAt_3b067_1 : decode cJ1_charAt_3b067 1 = .ok (.aload_n 0, 1) := by decide +kernel
theorem dJ1_charAt_3b067_2 : decode cJ1_charAt_3b067 2 = .ok (.arraylength, 1) := by decide +kernel
theorem dJ1_charAt_3b067_3 : decode cJ1_charAt_3b067 3 = .ok (.invokestatic 9, 3) := by decide +kernel
theorem dJ1_charAt_3b067_6 : decode cJ1_charAt_3b067 6 = .ok (.aload_n 0, 1) := by decide +kernel
theorem dJ1_charAt_3b067_7 : decode cJ1_charAt_3b067 7 = .ok (.iload_n 1, 1) := by decide +kernel
theorem dJ1_charAt_3b067_8 : decode cJ1_charAt_3b067 8 = .ok (.baload, 1) := by decide +kernel
theorem dJ1_charAt_3b067_9 : decode cJ1_charAt_3b067 9 = .ok (.sipush 255, 3) := by decide +kernel
theorem dJ1_charAt_3b067_12 : decode cJ1_charAt_3b067 12 = .ok (.iand, 1) := by decide +kernel
theorem dJ1_charAt_3b067_13 : decode cJ1_charAt_3b067 13 = .ok (.i2c, 1) := by decide +kernel
theorem dJ1_charAt_3b067_14 : decode cJ1_charAt_3b067 14 = .ok (.ireturn, 1) := by decide +kernel
theorem dJ3_checkIndex_8e157_0 : decode cJ3_checkIndex_8e157 0 = .ok (.iload_n 0, 1) := by decide +kernel
theorem dJ3_checkIndex_8e157_1 : decode cJ3_checkIndex_8e157 1 = .ok (.ifCond .lt 8, 3) := by decide +kernel
theorem dJ3_checkIndex_8e157_4 : decode cJ3_checkIndex_8e157 4 = .ok (.iload_n 0, 1) := by decide +kernel
theorem dJ3_checkIndex_8e157_5 : decode cJ3_checkIndex_8e157 5 = .ok (.iload_n 1, 1) := by decide +kernel
theorem dJ3_checkIndex_8e157_6 : decode cJ3_checkIndex_8e157 6 = .ok (.if_icmp .lt 10, 3) := by decide +kernel
theorem dJ3_checkIndex_8e157_9 : decode cJ3_checkIndex_8e157 9 = .ok (.aload_n 2, 1) := by decide +kernel
theorem dJ3_checkIndex_8e157_10 : decode cJ3_checkIndex_8e157 10 = .ok (.iload_n 0, 1) := by decide +kernel
theorem dJ3_checkIndex_8e157_11 : decode cJ3_checkIndex_8e157 11 = .ok (.iload_n 1, 1) := by decide +kernel
theorem dJ3_checkIndex_8e157_12 : decode cJ3_checkIndex_8e157 12 = .ok (.invokestatic 95, 3) := by decide +kernel
theorem dJ3_checkIndex_8e157_15 : decode cJ3_checkIndex_8e157 15 = .ok (.athrow, 1) := by decide +kernel
theorem dJ3_checkIndex_8e157_16 : decode cJ3_checkIndex_8e157 16 = .ok (.iload_n 0, 1) := by decide +kernel
theorem dJ3_checkIndex_8e157_17 : decode cJ3_checkIndex_8e157 17 = .ok (.ireturn, 1) := by decide +kernel
theorem lRJ0_9 : Cond.fieldLink RJ0 9 "java/lang/String" "value" "[B" ∈ tb := tm 3539 (by decide +kernel) rfl
theorem lRJ0_15 : Cond.fieldLink RJ0 15 "java/lang/String" "coder" "B" ∈ tb := tm 3540 (by decide +kernel) rfl
theorem lRJ0_38 : Cond.fieldLink RJ0 38 "java/lang/String" "COMPACT_STRINGS" "Z" ∈ tb := tm 401 (by decide +kernel) rfl
theorem vRJ0_335 : OkV RJ0 335 yJ0_coder_7d493 cJ0_coder_7d493 1 (some .byte) 0 := ⟨aw_v (tm 397 (by decide +kernel) rfl) (tm 398 (by decide +kernel) rfl) (tm 399 (by decide +kernel) rfl) (tm 303 (by decide +kernel) rfl) (tm 400 (by decide +kernel) rfl), by decide +kernel, by decide +kernel, by decide +kernel⟩
theorem vRJ0_492 : OkV RJ0 492 yJ0_isLatin1_aae02 cJ0_isLatin1_aae02 1 (some .boolean) 0 := ⟨aw_v (tm 407 (by decide +kernel) rfl) (tm 408 (by decide +kernel) rfl) (tm 409 (by decide +kernel) rfl) (tm 303 (by decide +kernel) rfl) (tm 410 (by decide +kernel) rfl), by decide +kernel, by decide +kernel, by decide +kernel⟩
theorem vRJ0_495_l : Cond.methodLink RJ0 495 yJ1_charAt_3b067 ∈ tb := tm 411 (by decide +kernel) rfl
theorem vRJ0_495_s : Cond.static yJ1_charAt_3b067 ∈ tb := tm 412 (by decide +kernel) rfl
theorem vRJ0_495_i : Cond.initialized yJ1_charAt_3b067.cls ∈ tb := tm 304 (by decide +kernel) rfl
theorem vRJ0_495_p : nPar yJ1_charAt_3b067 2 := by decide +kernel
theorem vRJ0_495_c : Cond.code yJ1_charAt_3b067 cJ1_charAt_3b067 2 (some .char) ∈ tb := tm 413 (by decide +kernel) rfl
theorem vRJ0_498_l : Cond.methodLink RJ0 498 yJ2_charAt_3b067 ∈ tb := tm 422 (by decide +kernel) rfl
theorem vRJ0_498_s : Cond.static yJ2_charAt_3b067 ∈ tb := tm 423 (by decide +kernel) rfl
theorem vRJ0_498_i : Cond.initialized yJ2_charAt_3b067.cls ∈ tb := tm 306 (by decide +kernel) rfl
theorem vRJ0_498_p : nPar yJ2_charAt_3b067 2 := by decide +kernel
theorem vRJ0_498_c : Cond.code yJ2_charAt_3b067 cJ2_charAt_3b067 2 (some .char) ∈ tb := tm 424 (by decide +kernel) rfl
theorem lRJ0_1053 : Cond.fieldLink RJ0 1053 "jdk/internal/util/Preconditions" "SIOOBE_FORMATTER" "Ljava/util/function/BiFunction;" ∈ tb := tm 417 (by decide +kernel) rfl
theorem vRJ0_1059_l : Cond.methodLink RJ0 1059 yJ3_checkIndex_8e157 ∈ tb := tm 419 (by decide +kernel) rfl
theorem vRJ0_1059_s : Cond.static yJ3_checkIndex_8e157 ∈ tb := tm 420 (by decide +kernel) rfl
theorem vRJ0_1059_i : Cond.initialized yJ3_checkIndex_8e157.cls ∈ tb := tm 305 (by decide +kernel) rfl
theorem vRJ0_1059_p : nPar yJ3_checkIndex_8e157 3 := by decide +kernel
theorem vRJ0_1059_c : Cond.code yJ3_checkIndex_8e157 cJ3_checkIndex_8e157 3 (some .int) ∈ tb := tm 421 (by decide +kernel) rfl
theorem vRJ1_9_l : Cond.methodLink RJ1 9 yJ0_checkIndex_df160 ∈ tb := tm 414 (by decide +kernel) rfl
theorem vRJ1_9_s : Cond.static yJ0_checkIndex_df160 ∈ tb := tm 415 (by decide +kernel) rfl
theorem vRJ1_9_i : Cond.initialized yJ0_checkIndex_df160.cls ∈ tb := tm 303 (by decide +kernel) rfl
theorem vRJ1_9_p : nPar yJ0_checkIndex_df160 2 := by decide +kernel
theorem vRJ1_9_c : Cond.code yJ0_checkIndex_df160 cJ0_checkIndex_df160 2 none ∈ tb := tm 416 (by decide +kernel) rfl
end
section
/-! the String constants: ExchangeHouse$Tokens 27, ExchangeHouse$Tokens 29, ExchangeHouse$Tokens 31, ExchangeHouse$Tokens 33, ExchangeHouseModel 384 -/
def sOwn : Nat → String := fun i => match i with
  | 0 => RTk
  | 1 => RTk
  | 2 => RTk
  | 3 => RTk
  | _ => RM
def sIx : Nat → Nat := fun i => match i with
  | 0 => 27
  | 1 => 29
  | 2 => 31
  | 3 => 33
  | _ => 384
def sTx : Nat → String := fun i => match i with
  | 0 => "with delay env if prio int bool pid chart inst alt opt "
  | 1 => "next stop join output set reset create decide else end to via "
  | 2 => "signal route process var timer start state input save when none "
  | 3 => "true false null self sender parent offspring now waiting active not or and "
  | _ => "signal route process var timer start state input save when none next stop join output set reset create decide else end to via with delay env if prio int bool pid true false null self sender parent offspring now active waiting not and or chart inst alt opt "
def sLen : List Nat := [55, 62, 64, 75, 256]
def sByt : List (List Int32) := [[119, 105, 116, 104, 32, 100, 101, 108, 97, 121, 32, 101, 110, 118, 32, 105, 102, 32, 112, 114, 105, 111, 32, 105, 110, 116, 32, 98, 111, 111, 108, 32, 112, 105, 100, 32, 99, 104, 97, 114, 116, 32, 105, 110, 115, 116, 32, 97, 108, 116, 32, 111, 112, 116, 32], [110, 101, 120, 116, 32, 115, 116, 111, 112, 32, 106, 111, 105, 110, 32, 111, 117, 116, 112, 117, 116, 32, 115, 101, 116, 32, 114, 101, 115, 101, 116, 32, 99, 114, 101, 97, 116, 101, 32, 100, 101, 99, 105, 100, 101, 32, 101, 108, 115, 101, 32, 101, 110, 100, 32, 116, 111, 32, 118, 105, 97, 32], [115, 105, 103, 110, 97, 108, 32, 114, 111, 117, 116, 101, 32, 112, 114, 111, 99, 101, 115, 115, 32, 118, 97, 114, 32, 116, 105, 109, 101, 114, 32, 115, 116, 97, 114, 116, 32, 115, 116, 97, 116, 101, 32, 105, 110, 112, 117, 116, 32, 115, 97, 118, 101, 32, 119, 104, 101, 110, 32, 110, 111, 110, 101, 32], [116, 114, 117, 101, 32, 102, 97, 108, 115, 101, 32, 110, 117, 108, 108, 32, 115, 101, 108, 102, 32, 115, 101, 110, 100, 101, 114, 32, 112, 97, 114, 101, 110, 116, 32, 111, 102, 102, 115, 112, 114, 105, 110, 103, 32, 110, 111, 119, 32, 119, 97, 105, 116, 105, 110, 103, 32, 97, 99, 116, 105, 118, 101, 32, 110, 111, 116, 32, 111, 114, 32, 97, 110, 100, 32], [115, 105, 103, 110, 97, 108, 32, 114, 111, 117, 116, 101, 32, 112, 114, 111, 99, 101, 115, 115, 32, 118, 97, 114, 32, 116, 105, 109, 101, 114, 32, 115, 116, 97, 114, 116, 32, 115, 116, 97, 116, 101, 32, 105, 110, 112, 117, 116, 32, 115, 97, 118, 101, 32, 119, 104, 101, 110, 32, 110, 111, 110, 101, 32, 110, 101, 120, 116, 32, 115, 116, 111, 112, 32, 106, 111, 105, 110, 32, 111, 117, 116, 112, 117, 116, 32, 115, 101, 116, 32, 114, 101, 115, 101, 116, 32, 99, 114, 101, 97, 116, 101, 32, 100, 101, 99, 105, 100, 101, 32, 101, 108, 115, 101, 32, 101, 110, 100, 32, 116, 111, 32, 118, 105, 97, 32, 119, 105, 116, 104, 32, 100, 101, 108, 97, 121, 32, 101, 110, 118, 32, 105, 102, 32, 112, 114, 105, 111, 32, 105, 110, 116, 32, 98, 111, 111, 108, 32, 112, 105, 100, 32, 116, 114, 117, 101, 32, 102, 97, 108, 115, 101, 32, 110, 117, 108, 108, 32, 115, 101, 108, 102, 32, 115, 101, 110, 100, 101, 114, 32, 112, 97, 114, 101, 110, 116, 32, 111, 102, 102, 115, 112, 114, 105, 110, 103, 32, 110, 111, 119, 32, 97, 99, 116, 105, 118, 101, 32, 119, 97, 105, 116, 105, 110, 103, 32, 110, 111, 116, 32, 97, 110, 100, 32, 111, 114, 32, 99, 104, 97, 114, 116, 32, 105, 110, 115, 116, 32, 97, 108, 116, 32, 111, 112, 116, 32]]
abbrev sN : Nat := 5
def nNest : List (String × Nat × MethodName × String) := [(RPa, 13, yKd_init, "ExchangeHouse"), (RJu, 11, yKd_init, "ExchangeHouse"), (RPl, 74, yKd_init, "ExchangeHouse"), (RRu, 11, yNe_init, "ExchangeHouse")]
/-- what is known of the String constants while a method works: they lie outside A -/
def sE (ak sv : Nat → Nat) (A : Nat → Prop) (U : State) (H : Heap) : Prop := vk_S sN sLen sByt ak sv A U H ∧ va_Z "java/lang/String" "COMPACT_STRINGS" "Z" (.int 1) A U H ∧ va_Zq "jdk/internal/util/Preconditions" "SIOOBE_FORMATTER" "Ljava/util/function/BiFunction;" A U H ∧ (∀ i, i < sN → vk_R (sOwn i) (sIx i) (sTx i) (ak i) U) ∧ (∀ q ∈ nNest, va_Nw (.methodLinkNest q.1 q.2.1 q.2.2.1 q.2.2.2) U) ∧ va_AO "ExchangeHouse$Kind" U
theorem sE.to {ak sv : Nat → Nat} {A B : Nat → Prop} {s U : State} {H : Heap} (hE : sE ak sv A s s.heap) (hk : ∀ q : Nat, q < s.heap.size → ¬ A q → H[q]? = s.heap[q]?) (hW : s.WarmedH U.vm) (hU : U.heap = H) (hB : ∀ q, B q → A q) : sE ak sv B U U.heap := by
  obtain ⟨h1, h2, h3, h4, h5, h6⟩ := hE
  rw [hU]
  exact ⟨((h1.kept hk).moved hW.alike).narrow hB, ((h2.kept hk).moved hW.alike).narrow hB, ((h3.kept hk).moved hW.alike).narrow hB, fun i hi => (h4 i hi).warm hW, fun q hq => (h5 q hq).warmM hW, h6.moved hW.alike⟩
theorem sE.blind {ak sv : Nat → Nat} {A : Nat → Prop} {U : State} {g : JFrame} {mk : MethodId} {a : Array Value} (h : sE ak sv A U U.heap) : sE ak sv A (U.calling g mk a) (U.calling g mk a).heap := by
  obtain ⟨h1, h2, h3, h4, h5, h6⟩ := h
  exact ⟨h1.moved (Vm.Alike.refl U.vm), h2.moved (Vm.Alike.refl U.vm), h3.moved (Vm.Alike.refl U.vm), fun i hi => (h4 i hi).same rfl, fun q hq => va_Nw.same rfl rfl (h5 q hq), h6.moved (Vm.Alike.refl U.vm)⟩
/-- a method that only reads the constants: the heap stays -/
def KP (ak sv : Nat → Nat) (l : Launch) (y : MethodName) (b : ByteArray) (n : Nat) (r : Option FieldType) (d : Nat) (av : List Value) (post : Int32 → Prop) : Prop :=
  Met l y (aw y b n r) (rD d 0 0) (va_Pc av (fun U => sE ak sv (fun q => U.heap.size ≤ q) U U.heap)) (vp_Si post) 0 0 (fun _ => False)
section PRows
variable {ak sv : Nat → Nat} {p : Program} {l : Launch} {e : Env} {R : Room} {s : State} {m : MethodId} {args : Array Value} {below : List Frame} {meth : Method} {c : Code} {H : Heap} {locs : List Loc} {cells slots : Nat} {Q : State → Prop}
variable {cc : ByteArray} {nL : Nat} {own : String} {A : Nat → Prop} {pc : Nat} {ls : Array Slot} {rest st : List Value}
variable {y : MethodName} {b : ByteArray} {n d : Nat} {r : Option FieldType} {av : List Value}
theorem KP.of {post : Int32 → Prop} (hy : plainName y.cls = true) (hn : (lg_sl av).length ≤ n)
    (kk : ∀ (p : Program) (e : Env) (s : State) (m : MethodId) (below : List Frame) (meth : Method) (c : Code) (ls : Array Slot), CallFix p m c b n s av.toArray tb y.cls → meth.sig.returnType = r → meth.locks = false → sE ak sv (fun q => s.heap.size ≤ q) s s.heap → lv_has ls n (lv_args 0 av) →
      W p l e (rD d 0 0) s m av.toArray below meth c s.heap [] 0 0 (MQ below (vp_Si post) av.toArray s 0 0 (fun _ => False)) (F0 m 0 ls [])) : KP ak sv l y b n r d av post := by
  refine Met.ofW (cc := b) (maxL := n) (ret := r) hy rfl ?_
  intro p e s m args below meth c s₁ B hml hv
  obtain ⟨rfl, hE⟩ := hv
  have hts := atoms_spec (ws := aw y b n r) B.pre
  have hown : s.vm.findClass y.cls = some m.cls := findClass_of_methodNamed B.named
  have hl := lv_entry av (n := n) hn
  rw [lg_entry_eq]
  exact kk p e s m below meth c _ ⟨B.exec, B.bytes, hml, hown, fun w h => hts w (List.mem_cons_of_mem _ h)⟩ B.returns B.notSynchronized hE hl
theorem KP.ret {post : Int32 → Prop} {ty : FieldType} {v : Int32} (C : CallFix p m c cc nL s args tb own) (hr : meth.sig.returnType = some ty) (hlk : meth.locks = false) (hn : narrow ty (.int v) = .int v) (hp : post v) (hdg : decode cc pc = .ok (.ireturn, 1)) :
    W p l e R s m args below meth c s.heap [] 0 0 (MQ below (vp_Si post) args s 0 0 (fun _ => False)) (F0 m pc ls [.int v]) :=
  W.zret C.1 C.2.1 hr hn (fun t ht _ => ⟨v, rfl, hp, ht⟩) (fun _ h => by cases h) hdg hlk
theorem KP.blind {av : List Value} : FrameBlind (va_Pc av (fun U => sE ak sv (fun q => U.heap.size ≤ q) U U.heap)) := fun a U g mk q => ⟨q.1, sE.blind (A := fun q => U.heap.size ≤ q) q.2⟩
/-- invokevirtual on a String constant -/
theorem KP.callV {post : Int32 → Prop} {i idx : Nat} {As : List Value} (C : CallFix p m c cc nL s args tb own) (hE : sE ak sv A s s.heap) (hS : va_S A s.heap H locs) (hA : ∀ q : Nat, s.heap.size ≤ q → A q) (hi : i < sN) (hM : KP ak sv l y b n r d (.ref (ak i) :: As) post) (hy : y.cls = "java/lang/String") (hG : OkV own idx y b n r As.length) (hR : d + 1 ≤ R.frames ∧ 8 + (n + 11) + 40 * d ≤ R.locals)
    (hls : ls.size = nL) (hst : st = As.reverse ++ .ref (ak i) :: rest) (hrm : (rest.map fun v => v.category).sum ≤ 8) (hdg : decode cc pc = .ok (.invokevirtual idx, 3)) (hf : cells ≤ R.cells ∧ slots ≤ R.slots)
    (kk : ∀ v : Int32, post v → W p l e R s m args below meth c H locs cells slots Q (F0 m (pc + 3) ls (.int v :: rest))) : W p l e R s m args below meth c H locs cells slots Q (F0 m pc ls st) := by
  refine vp_callSi (W.runV (As := As) (rest := rest) C hM (cwV As.length C.2.2.2.2 hG.1 rfl rfl rfl ⟨rfl, hG.2⟩ hR) ⟨KP.blind, by rw [hy]; exact vk_recv hE.1 hi hS, fun U hU hW => ⟨rfl, sE.to hE hS.2.1 hW hU (fun q h => hA q (Nat.le_trans hS.1 (by rw [hU] at h; exact h)))⟩⟩ rfl rfl hls hst (lv_room hrm) hdg hf) (fun v hp => ?_)
  exact kk v hp
/-- invokestatic of a method that only reads the constants -/
theorem KP.callS {post : Int32 → Prop} {idx : Nat} {As : List Value} (C : CallFix p m c cc nL s args tb own) (hE : sE ak sv A s s.heap) (hS : va_S A s.heap H locs) (hA : ∀ q : Nat, s.heap.size ≤ q → A q) (hM : KP ak sv l y b n r d As post) (h1 : Cond.methodLink own idx y ∈ tb) (h2 : Cond.static y ∈ tb) (h3 : Cond.initialized y.cls ∈ tb) (h4 : Cond.code y b n r ∈ tb) (h5 : nPar y As.length) (hR : d + 1 ≤ R.frames ∧ 8 + (n + 11) + 40 * d ≤ R.locals)
    (hls : ls.size = nL) (hst : st = As.reverse ++ rest) (hrm : (rest.map fun v => v.category).sum ≤ 8) (hdg : decode cc pc = .ok (.invokestatic idx, 3)) (hf : cells ≤ R.cells ∧ slots ≤ R.slots)
    (kk : ∀ v : Int32, post v → W p l e R s m args below meth c H locs cells slots Q (F0 m (pc + 3) ls (.int v :: rest))) : W p l e R s m args below meth c H locs cells slots Q (F0 m pc ls st) := by
  refine vp_callSi (W.runS (As := As) (rest := rest) C hM ⟨callB_of As.length C.2.2.2.2 (aw_in h4) rfl rfl rfl (C.2.2.2.2 _ h3) (C.2.2.2.2 _ h1) h5 hR, C.2.2.2.2 _ h2⟩ ⟨KP.blind, fun U hU hW => ⟨rfl, sE.to hE hS.2.1 hW hU (fun q h => hA q (Nat.le_trans hS.1 (by rw [hU] at h; exact h)))⟩⟩ rfl rfl hls hst (lv_room hrm) hdg hf) (fun v hp => ?_)
  exact kk v hp
end PRows
def sCh (i k : Nat) : Int32 := (sByt.getD i []).getD k 0 &&& 255
theorem s_ok : ∀ i, i < sN → sLen.getD i 0 = (sByt.getD i []).length ∧ sLen.getD i 0 < 2 ^ 31 := by decide +kernel
theorem s_c2 (b : Int32) : ((b &&& 255).toUInt32 % 65536).toInt32 = b &&& 255 := sc_c2 b
/-- a method without an answer that only reads: the heap stays -/
def qV : Array Value → State → Outcome → State → Prop := fun _ st o t => o = .returned none ∧ t.heap = st.heap
def KPv (ak sv : Nat → Nat) (l : Launch) (y : MethodName) (b : ByteArray) (n : Nat) (d : Nat) (av : List Value) : Prop :=
  Met l y (aw y b n none) (rD d 0 0) (va_Pc av (fun U => sE ak sv (fun q => U.heap.size ≤ q) U U.heap)) qV 0 0 (fun _ => False)
section PvRows
variable {ak sv : Nat → Nat} {p : Program} {l : Launch} {e : Env} {R : Room} {s : State} {m : MethodId} {args : Array Value} {below : List Frame} {meth : Method} {c : Code} {H : Heap} {locs : List Loc} {cells slots : Nat} {Q : State → Prop}
variable {cc : ByteArray} {nL : Nat} {own : String} {A : Nat → Prop} {pc : Nat} {ls : Array Slot} {rest st : List Value}
variable {y : MethodName} {b : ByteArray} {n d : Nat} {av : List Value}
theorem KPv.of (hy : plainName y.cls = true) (hn : (lg_sl av).length ≤ n)
    (kk : ∀ (p : Program) (e : Env) (s : State) (m : MethodId) (below : List Frame) (meth : Method) (c : Code) (ls : Array Slot), CallFix p m c b n s av.toArray tb y.cls → meth.sig.returnType = none → meth.locks = false → sE ak sv (fun q => s.heap.size ≤ q) s s.heap → lv_has ls n (lv_args 0 av) →
      W p l e (rD d 0 0) s m av.toArray below meth c s.heap [] 0 0 (MQ below qV av.toArray s 0 0 (fun _ => False)) (F0 m 0 ls [])) : KPv ak sv l y b n d av := by
  refine Met.ofW (cc := b) (maxL := n) (ret := none) hy rfl ?_
  intro p e s m args below meth c s₁ B hml hv
  obtain ⟨rfl, hE⟩ := hv
  have hts := atoms_spec (ws := aw y b n none) B.pre
  have hown : s.vm.findClass y.cls = some m.cls := findClass_of_methodNamed B.named
  have hl := lv_entry av (n := n) hn
  rw [lg_entry_eq]
  exact kk p e s m below meth c _ ⟨B.exec, B.bytes, hml, hown, fun w h => hts w (List.mem_cons_of_mem _ h)⟩ B.returns B.notSynchronized hE hl
theorem KPv.ret (C : CallFix p m c cc nL s args tb own) (hr : meth.sig.returnType = none) (hlk : meth.locks = false) (hdg : decode cc pc = .ok (.return_, 1)) :
    W p l e R s m args below meth c s.heap [] 0 0 (MQ below qV args s 0 0 (fun _ => False)) (F0 m pc ls []) :=
  W.vret C.1 C.2.1 hr (fun t ht _ => ⟨rfl, ht⟩) (fun _ h => by cases h) hdg hlk
theorem KPv.callS {idx : Nat} {As : List Value} (C : CallFix p m c cc nL s args tb own) (hE : sE ak sv A s s.heap) (hS : va_S A s.heap H locs) (hA : ∀ q : Nat, s.heap.size ≤ q → A q) (hM : KPv ak sv l y b n d As) (h1 : Cond.methodLink own idx y ∈ tb) (h2 : Cond.static y ∈ tb) (h3 : Cond.initialized y.cls ∈ tb) (h4 : Cond.code y b n none ∈ tb) (h5 : nPar y As.length) (hR : d + 1 ≤ R.frames ∧ 8 + (n + 11) + 40 * d ≤ R.locals)
    (hls : ls.size = nL) (hst : st = As.reverse ++ rest) (hrm : (rest.map fun v => v.category).sum ≤ 8) (hdg : decode cc pc = .ok (.invokestatic idx, 3)) (hf : cells ≤ R.cells ∧ slots ≤ R.slots)
    (kk : W p l e R s m args below meth c H locs cells slots Q (F0 m (pc + 3) ls rest)) : W p l e R s m args below meth c H locs cells slots Q (F0 m pc ls st) := by
  intro T hT X
  obtain ⟨v, st₀, t, T', L, h0, X', hL, e1, ⟨hv, hh⟩, stp⟩ := W.runS (g := F0 m pc ls st) (As := As) (rest := rest) C hM ⟨callB_of As.length C.2.2.2.2 (aw_in h4) rfl rfl rfl (C.2.2.2.2 _ h3) (C.2.2.2.2 _ h1) h5 hR, C.2.2.2.2 _ h2⟩ ⟨KP.blind, fun U hU hW => ⟨rfl, sE.to hE hS.2.1 hW hU (fun q h => hA q (Nat.le_trans hS.1 (by rw [hU] at h; exact h)))⟩⟩ rfl rfl hls hst (lv_room hrm) hdg hf T hT X
  cases hv
  obtain ⟨t2, a1, b1⟩ := kk T' (by rw [e1, hh, h0]) (Stand.forget X' (fun q h => (hL q h).elim))
  exact ⟨t2, stp t2 a1, b1⟩
end PvRows
section SJ
variable {ak sv : Nat → Nat} (l : Launch)
theorem j_coder {i : Nat} (hi : i < sN) : KP ak sv l yJ0_coder_7d493 cJ0_coder_7d493 1 (some .byte) 0 [.ref (ak i)] (fun r => r = 0) := by
  refine KP.of (by decide) (Nat.le_of_ble_eq_true rfl) ?_
  intro p e s m below meth c ls C hr hlk hE hl
  have hx := C.1
  have hb := C.2.1
  have hS : va_S (fun q => s.heap.size ≤ q) s.heap s.heap [] := va_S.rf
  have hl : lv_has ls 1 [(0, .ref (ak i))] := hl
  refine va_gets hx hb hE.2.1 hS C.2.2.2.1 (C.2.2.2.2 _ lRJ0_38) (fun _ h => h) dJ0_coder_7d493_0 ?_
  refine lv_if_eq (tgt := 13) hx hb dJ0_coder_7d493_3 (by decide) (fun c3 => absurd c3 (by decide)) (fun c3 => ?_)
  refine lv_aload_n hx hb dJ0_coder_7d493_6 rfl (lv_at hl 0 rfl) ?_
  refine vk_getf hx hb (hE.1.1 i hi).2.1 hS C.2.2.2.1 (C.2.2.2.2 _ lRJ0_15) (fun _ h => h) dJ0_coder_7d493_7 ?_
  refine lv_goto (tgt := 14) hx hb dJ0_coder_7d493_10 (by decide) ?_
  exact KP.ret C hr hlk (by decide) rfl dJ0_coder_7d493_14
theorem j_isLatin1 {i : Nat} (hi : i < sN) : KP ak sv l yJ0_isLatin1_aae02 cJ0_isLatin1_aae02 1 (some .boolean) 0 [.ref (ak i)] (fun r => r = 1) := by
  refine KP.of (by decide) (Nat.le_of_ble_eq_true rfl) ?_
  intro p e s m below meth c ls C hr hlk hE hl
  have hx := C.1
  have hb := C.2.1
  have hS : va_S (fun q => s.heap.size ≤ q) s.heap s.heap [] := va_S.rf
  have hl : lv_has ls 1 [(0, .ref (ak i))] := hl
  refine va_gets hx hb hE.2.1 hS C.2.2.2.1 (C.2.2.2.2 _ lRJ0_38) (fun _ h => h) dJ0_isLatin1_aae02_0 ?_
  refine lv_if_eq (tgt := 17) hx hb dJ0_isLatin1_aae02_3 (by decide) (fun c3 => absurd c3 (by decide)) (fun c3 => ?_)
  refine lv_aload_n hx hb dJ0_isLatin1_aae02_6 rfl (lv_at hl 0 rfl) ?_
  refine vk_getf hx hb (hE.1.1 i hi).2.1 hS C.2.2.2.1 (C.2.2.2.2 _ lRJ0_15) (fun _ h => h) dJ0_isLatin1_aae02_7 ?_
  refine lv_if_ne (tgt := 17) hx hb dJ0_isLatin1_aae02_10 (by decide) (fun c3 => absurd rfl c3) (fun c3 => ?_)
  refine lv_iconst (v := 1) hx hb dJ0_isLatin1_aae02_13 (by decide) ?_
  refine lv_goto (tgt := 18) hx hb dJ0_isLatin1_aae02_14 (by decide) ?_
  exact KP.ret C hr hlk (by decide) rfl dJ0_isLatin1_aae02_18
theorem j_length {i : Nat} (hi : i < sN) : KP ak sv l yJ0_length_8abf5 cJ0_length_8abf5 1 (some .int) 1 [.ref (ak i)] (fun r => r = nI (sLen.getD i 0)) := by
  refine KP.of (by decide) (Nat.le_of_ble_eq_true rfl) ?_
  intro p e s m below meth c ls C hr hlk hE hl
  have hx := C.1
  have hb := C.2.1
  have hS : va_S (fun q => s.heap.size ≤ q) s.heap s.heap [] := va_S.rf
  have hl : lv_has ls 1 [(0, .ref (ak i))] := hl
  refine lv_aload_n hx hb dJ0_length_8abf5_0 rfl (lv_at hl 0 rfl) ?_
  refine vk_getf hx hb (hE.1.1 i hi).2.2.1 hS C.2.2.2.1 (C.2.2.2.2 _ lRJ0_9) (fun _ h => h) dJ0_length_8abf5_1 ?_
  refine va_tlen hx hb (hE.1.1 i hi).2.2.2 hS rfl dJ0_length_8abf5_4 ?_
  refine lv_aload_n hx hb dJ0_length_8abf5_5 rfl (lv_at hl 0 rfl) ?_
  refine KP.callV (As := []) C hE hS (fun _ h => h) hi (j_coder l hi) rfl vRJ0_335 ⟨by decide, by decide⟩ hl.1 rfl (Nat.le_of_ble_eq_true rfl) dJ0_length_8abf5_6 ⟨by decide, by decide⟩ (fun v hv => ?_)
  subst hv
  refine lv_ishr hx hb dJ0_length_8abf5_9 ?_
  exact KP.ret C hr hlk rfl (sc_shr0 (s_ok i hi).2) dJ0_length_8abf5_10
theorem j_pcheckN {a b : Int32} (h1 : ¬ a < 0) (h2 : a < b) : KP ak sv l yJ3_checkIndex_8e157 cJ3_checkIndex_8e157 3 (some .int) 0 [.int a, .int b, .null] (fun r => r = a) := by
  refine KP.of (by decide) (Nat.le_of_ble_eq_true rfl) ?_
  intro p e s m below meth c ls C hr hlk hE hl
  have hx := C.1
  have hb := C.2.1
  have hl : lv_has ls 3 [(0, .int a), (1, .int b), (2, .null)] := hl
  refine lv_iload_n hx hb dJ3_checkIndex_8e157_0 rfl (lv_at hl 0 rfl) ?_
  refine lv_if_lt (tgt := 9) hx hb dJ3_checkIndex_8e157_1 (by decide) (fun q => absurd q h1) (fun _ => ?_)
  refine lv_iload_n hx hb dJ3_checkIndex_8e157_4 rfl (lv_at hl 0 rfl) ?_
  refine lv_iload_n hx hb dJ3_checkIndex_8e157_5 rfl (lv_at hl 1 rfl) ?_
  refine lv_icmp_lt (tgt := 16) hx hb dJ3_checkIndex_8e157_6 (by decide) (fun _ => ?_) (fun q => absurd h2 q)
  refine lv_iload_n hx hb dJ3_checkIndex_8e157_16 rfl (lv_at hl 0 rfl) ?_
  exact KP.ret C hr hlk rfl rfl dJ3_checkIndex_8e157_17
theorem j_pcheckR {a b : Int32} {t : Nat} (h1 : ¬ a < 0) (h2 : a < b) : KP ak sv l yJ3_checkIndex_8e157 cJ3_checkIndex_8e157 3 (some .int) 0 [.int a, .int b, .ref t] (fun r => r = a) := by
  refine KP.of (by decide) (Nat.le_of_ble_eq_true rfl) ?_
  intro p e s m below meth c ls C hr hlk hE hl
  have hx := C.1
  have hb := C.2.1
  have hl : lv_has ls 3 [(0, .int a), (1, .int b), (2, .ref t)] := hl
  refine lv_iload_n hx hb dJ3_checkIndex_8e157_0 rfl (lv_at hl 0 rfl) ?_
  refine lv_if_lt (tgt := 9) hx hb dJ3_checkIndex_8e157_1 (by decide) (fun q => absurd q h1) (fun _ => ?_)
  refine lv_iload_n hx hb dJ3_checkIndex_8e157_4 rfl (lv_at hl 0 rfl) ?_
  refine lv_iload_n hx hb dJ3_checkIndex_8e157_5 rfl (lv_at hl 1 rfl) ?_
  refine lv_icmp_lt (tgt := 16) hx hb dJ3_checkIndex_8e157_6 (by decide) (fun _ => ?_) (fun q => absurd h2 q)
  refine lv_iload_n hx hb dJ3_checkIndex_8e157_16 rfl (lv_at hl 0 rfl) ?_
  exact KP.ret C hr hlk rfl rfl dJ3_checkIndex_8e157_17
theorem j_check {a b : Int32} (h1 : ¬ a < 0) (h2 : a < b) : KPv ak sv l yJ0_checkIndex_df160 cJ0_checkIndex_df160 2 1 [.int a, .int b] := by
  refine KPv.of (by decide) (Nat.le_of_ble_eq_true rfl) ?_
  intro p e s m below meth c ls C hr hlk hE hl
  have hx := C.1
  have hb := C.2.1
  have hS : va_S (fun q => s.heap.size ≤ q) s.heap s.heap [] := va_S.rf
  have hl : lv_has ls 2 [(0, .int a), (1, .int b)] := hl
  refine lv_iload_n hx hb dJ0_checkIndex_df160_0 rfl (lv_at hl 0 rfl) ?_
  refine lv_iload_n hx hb dJ0_checkIndex_df160_1 rfl (lv_at hl 1 rfl) ?_
  rcases hE.2.2.1 with hz | ⟨t, hz⟩
  · refine va_gets hx hb hz hS C.2.2.2.1 (C.2.2.2.2 _ lRJ0_1053) (fun _ h => h) dJ0_checkIndex_df160_2 ?_
    refine KP.callS (As := [.int a, .int b, .null]) C hE hS (fun _ h => h) (j_pcheckN l h1 h2) vRJ0_1059_l vRJ0_1059_s vRJ0_1059_i vRJ0_1059_c vRJ0_1059_p ⟨by decide, by decide⟩ hl.1 rfl (Nat.le_of_ble_eq_true rfl) dJ0_checkIndex_df160_5 ⟨by decide, by decide⟩ (fun v hv => ?_)
    refine lv_pop hx hb dJ0_checkIndex_df160_8 rfl ?_
    exact KPv.ret C hr hlk dJ0_checkIndex_df160_9
  · refine va_gets hx hb hz hS C.2.2.2.1 (C.2.2.2.2 _ lRJ0_1053) (fun _ h => h) dJ0_checkIndex_df160_2 ?_
    refine KP.callS (As := [.int a, .int b, .ref t]) C hE hS (fun _ h => h) (j_pcheckR l h1 h2) vRJ0_1059_l vRJ0_1059_s vRJ0_1059_i vRJ0_1059_c vRJ0_1059_p ⟨by decide, by decide⟩ hl.1 rfl (Nat.le_of_ble_eq_true rfl) dJ0_checkIndex_df160_5 ⟨by decide, by decide⟩ (fun v hv => ?_)
    refine lv_pop hx hb dJ0_checkIndex_df160_8 rfl ?_
    exact KPv.ret C hr hlk dJ0_checkIndex_df160_9
theorem j_latinAt {i k : Nat} (hi : i < sN) (hk : k < sLen.getD i 0) : KP ak sv l yJ1_charAt_3b067 cJ1_charAt_3b067 2 (some .char) 2 [.ref (sv i), .int (nI k)] (fun r => r = sCh i k) := by
  have hL := (s_ok i hi).2
  refine KP.of (by decide) (Nat.le_of_ble_eq_true rfl) ?_
  intro p e s m below meth c ls C hr hlk hE hl
  have hx := C.1
  have hb := C.2.1
  have hS : va_S (fun q => s.heap.size ≤ q) s.heap s.heap [] := va_S.rf
  have hl : lv_has ls 2 [(0, .ref (sv i)), (1, .int (nI k))] := hl
  refine lv_iload_n hx hb dJ1_charAt_3b067_0 rfl (lv_at hl 1 rfl) ?_
  refine lv_aload_n hx hb dJ1_charAt_3b067_1 rfl (lv_at hl 0 rfl) ?_
  refine va_tlen (v := nI (sLen.getD i 0)) hx hb (hE.1.1 i hi).2.2.2 hS rfl dJ1_charAt_3b067_2 ?_
  refine KPv.callS (As := [.int (nI k), .int (nI (sLen.getD i 0))]) C hE hS (fun _ h => h) (j_check l (nI_pos (by omega)) (nI_lt hk hL)) vRJ1_9_l vRJ1_9_s vRJ1_9_i vRJ1_9_c vRJ1_9_p ⟨by decide, by decide⟩ hl.1 rfl (Nat.le_of_ble_eq_true rfl) dJ1_charAt_3b067_3 ⟨by decide, by decide⟩ ?_
  refine lv_aload_n hx hb dJ1_charAt_3b067_6 rfl (lv_at hl 0 rfl) ?_
  refine lv_iload_n hx hb dJ1_charAt_3b067_7 rfl (lv_at hl 1 rfl) ?_
  refine va_tb hx hb (hE.1.1 i hi).2.2.2 hS (vp_in_nI hk hL) rfl dJ1_charAt_3b067_8 ?_
  refine lv_sipush (v := 255) hx hb dJ1_charAt_3b067_9 (by decide) ?_
  refine lv_iand hx hb dJ1_charAt_3b067_12 ?_
  refine lv_i2c (v := sCh i k) hx hb dJ1_charAt_3b067_13 (by rw [nI_clamp (by omega)]; exact sc_c2 _) ?_
  exact KP.ret C hr hlk (sc_nar _) rfl dJ1_charAt_3b067_14
theorem j_charAt {i k : Nat} (hi : i < sN) (hk : k < sLen.getD i 0) : KP ak sv l yJ0_charAt_5068e cJ0_charAt_5068e 2 (some .char) 3 [.ref (ak i), .int (nI k)] (fun r => r = sCh i k) := by
  refine KP.of (by decide) (Nat.le_of_ble_eq_true rfl) ?_
  intro p e s m below meth c ls C hr hlk hE hl
  have hx := C.1
  have hb := C.2.1
  have hS : va_S (fun q => s.heap.size ≤ q) s.heap s.heap [] := va_S.rf
  have hl : lv_has ls 2 [(0, .ref (ak i)), (1, .int (nI k))] := hl
  refine lv_aload_n hx hb dJ0_charAt_5068e_0 rfl (lv_at hl 0 rfl) ?_
  refine KP.callV (As := []) C hE hS (fun _ h => h) hi (j_isLatin1 l hi) rfl vRJ0_492 ⟨by decide, by decide⟩ hl.1 rfl (Nat.le_of_ble_eq_true rfl) dJ0_charAt_5068e_1 ⟨by decide, by decide⟩ (fun v hv => ?_)
  subst hv
  refine lv_if_eq (tgt := 16) hx hb dJ0_charAt_5068e_4 (by decide) (fun c3 => absurd c3 (by decide)) (fun c3 => ?_)
  refine lv_aload_n hx hb dJ0_charAt_5068e_7 rfl (lv_at hl 0 rfl) ?_
  refine vk_getf hx hb (hE.1.1 i hi).2.2.1 hS C.2.2.2.1 (C.2.2.2.2 _ lRJ0_9) (fun _ h => h) dJ0_charAt_5068e_8 ?_
  refine lv_iload_n hx hb dJ0_charAt_5068e_11 rfl (lv_at hl 1 rfl) ?_
  refine KP.callS (As := [.ref (sv i), .int (nI k)]) C hE hS (fun _ h => h) (j_latinAt l hi hk) vRJ0_495_l vRJ0_495_s vRJ0_495_i vRJ0_495_c vRJ0_495_p ⟨by decide, by decide⟩ hl.1 rfl (Nat.le_of_ble_eq_true rfl) dJ0_charAt_5068e_12 ⟨by decide, by decide⟩ (fun v hv => ?_)
  subst hv
  exact KP.ret C hr hlk (sc_nar _) rfl dJ0_charAt_5068e_15
end SJ
end
section
theorem ac_byte : Cond.arrayClass .byte ∈ tb := tm 366 (by decide +kernel) rfl
theorem ac_int : Cond.arrayClass .int ∈ tb := tm 496 (by decide +kernel) rfl
theorem ac_long : Cond.arrayClass .long ∈ tb := tm 497 (by decide +kernel) rfl
theorem ac_boolean : Cond.arrayClass .boolean ∈ tb := tm 2058 (by decide +kernel) rfl
/-! making the reference: its constructor -/
/-- a static method that reads nothing and changes nothing -/
def KQ (l : Launch) (y : MethodName) (b : ByteArray) (n : Nat) (r : Option FieldType) (d : Nat) (av : List Value) (post : Int32 → Prop) : Prop :=
  Met l y (aw y b n r) (rD d 0 0) (va_Pc av (fun _ => True)) (vp_Si post) 0 0 (fun _ => False)
/-- a method that may use the String constants, without an answer -/
def KVx {σ : Type} (ak sv : Nat → Nat) (l : Launch) (y : MethodName) (b : ByteArray) (n : Nat) (rm : Room) (g : GG) (w : va_W) (wd : σ → va_W) (av : List Value) (post : σ → Prop) : Prop :=
  ∀ sz : Nat, Met l y (aw y b n none) rm (va_Pc av (fun U => gPre g w sz U ∧ sE ak sv (va_A w sz) U U.heap)) (va_Qv post (gB g wd (va_A w sz)) (va_A w sz)) rm.cells rm.slots (va_A w sz)
section QRows
variable {σ : Type} {ak sv : Nat → Nat} {p : Program} {l : Launch} {e : Env} {R : Room} {s : State} {m : MethodId} {args : Array Value} {below : List Frame} {meth : Method} {c : Code} {H H0 : Heap} {locs : List Loc} {cells slots : Nat} {Q : State → Prop}
variable {cc : ByteArray} {nL : Nat} {own : String} {A : Nat → Prop} {pc : Nat} {ls : Array Slot} {rest st : List Value} {g : GG} {w : va_W} {wd : σ → va_W} {rm : Room}
variable {y : MethodName} {b : ByteArray} {n d : Nat} {r : Option FieldType} {av : List Value}
theorem KQ.of {post : Int32 → Prop} (hy : plainName y.cls = true) (hn : (lg_sl av).length ≤ n)
    (kk : ∀ (p : Program) (e : Env) (s : State) (m : MethodId) (below : List Frame) (meth : Method) (c : Code) (ls : Array Slot), CallFix p m c b n s av.toArray tb y.cls → meth.sig.returnType = r → meth.locks = false → lv_has ls n (lv_args 0 av) →
      W p l e (rD d 0 0) s m av.toArray below meth c s.heap [] 0 0 (MQ below (vp_Si post) av.toArray s 0 0 (fun _ => False)) (F0 m 0 ls [])) : KQ l y b n r d av post := by
  refine Met.ofW (cc := b) (maxL := n) (ret := r) hy rfl ?_
  intro p e s m args below meth c s₁ B hml hv
  obtain ⟨rfl, -⟩ := hv
  have hts := atoms_spec (ws := aw y b n r) B.pre
  have hown : s.vm.findClass y.cls = some m.cls := findClass_of_methodNamed B.named
  have hl := lv_entry av (n := n) hn
  rw [lg_entry_eq]
  exact kk p e s m below meth c _ ⟨B.exec, B.bytes, hml, hown, fun w h => hts w (List.mem_cons_of_mem _ h)⟩ B.returns B.notSynchronized hl
theorem KQ.callS {post : Int32 → Prop} {idx : Nat} {As : List Value} (C : CallFix p m c cc nL s args tb own) (hM : KQ l y b n r d As post) (hG : OkS own idx y b n r As.length) (hy : y.cls = own) (hR : d + 1 ≤ R.frames ∧ 8 + (n + 11) + 40 * d ≤ R.locals)
    (hls : ls.size = nL) (hst : st = As.reverse ++ rest) (hrm : (rest.map fun v => v.category).sum ≤ 8) (hdg : decode cc pc = .ok (.invokestatic idx, 3)) (hf : cells ≤ R.cells ∧ slots ≤ R.slots)
    (kk : ∀ v : Int32, post v → W p l e R s m args below meth c H locs cells slots Q (F0 m (pc + 3) ls (.int v :: rest))) : W p l e R s m args below meth c H locs cells slots Q (F0 m pc ls st) := by
  refine vp_callSi (W.runS (As := As) (rest := rest) C hM (cwS As.length C.2.2.2.2 hG.1 rfl rfl rfl ⟨hy, hG.2⟩ hR) ⟨fun a U g mk q => ⟨q.1, trivial⟩, fun U hU hW => ⟨rfl, trivial⟩⟩ rfl rfl hls hst (lv_room hrm) hdg hf) (fun v hp => ?_)
  exact kk v hp
theorem KVx.of {post : σ → Prop} (hy : plainName y.cls = true) (hn : (lg_sl av).length ≤ n)
    (kk : ∀ (p : Program) (e : Env) (s : State) (m : MethodId) (below : List Frame) (meth : Method) (c : Code) (A : Nat → Prop) (ls : Array Slot), Cx p s m c b n y.cls av.toArray g → meth.sig.returnType = none → meth.locks = false → meth.name = y.name → Hx g w A s.heap s.heap [] → sE ak sv A s s.heap → lv_has ls n (lv_args 0 av) →
      W p l e rm s m av.toArray below meth c s.heap [] 0 0 (MQ below (va_Qv post (gB g wd A) A) av.toArray s rm.cells rm.slots A) (F0 m 0 ls [])) : KVx ak sv l y b n rm g w wd av post := by
  intro sz
  refine Met.ofW (cc := b) (maxL := n) (ret := none) hy rfl ?_
  intro p e s m args below meth c s₁ B hml hv
  obtain ⟨rfl, ⟨hsz, hP, hK, hD0⟩, hE⟩ := hv
  have hts := atoms_spec (ws := aw y b n none) B.pre
  have hown : s.vm.findClass y.cls = some m.cls := findClass_of_methodNamed B.named
  subst hsz
  have hl := lv_entry av (n := n) hn
  rw [lg_entry_eq]
  exact kk p e s m below meth c _ _ ⟨⟨B.exec, B.bytes, hml, hown, fun w h => hts w (List.mem_cons_of_mem _ h)⟩, hK⟩ B.returns B.notSynchronized (name_of_methodNamed B.named B.method).1 ⟨hP, hD0.self, va_S.rf, fun q h => Or.inr h⟩ hE hl
/-- new arrays -/
theorem newA_b (C : Cx p s m c cc nL own args g) (h : Hx g w A H0 H locs) {n : Int32} {N : Nat} (hn : ¬ n < 0) (hN : n.toNatClampNeg = N) (h8 : N * componentBytes .byte ≤ 536870912) (hc : cells + 1 ≤ R.cells) (hs : slots + N ≤ R.slots) (hdg : decode cc pc = .ok (.newarray .byte, 2)) (kk : ∀ (q : Nat) (H1 : Heap), Hx g (w ++ [(q, .inl (g.2.2 0, N, .inl (fun _ => 0)))]) A H0 H1 locs → W p l e R s m args below meth c H1 locs (cells + 1) (slots + N) Q (F0 m (pc + 2) ls (.ref q :: rest))) : W p l e R s m args below meth c H locs cells slots Q (F0 m pc ls (.int n :: rest)) := by
  refine va_newa (atype := .byte) C.1.1 C.1.2.1 (C.1.2.2.2.2 _ ac_byte) rfl C.2 h.1 h.2.1 h.2.2.1 h.2.2.2 (a0 := (N, .inl (fun _ => 0))) (fun cA => rfl) hn hN h8 hc hs hdg (fun q cA H1 hK hP hD hS => ?_)
  have e1 : cA = g.2.2 0 := Option.some.inj ((hK.2 5 (cA, .byte) rfl).2.symm.trans (C.2.2 0 (g.2.2 0, .byte) rfl).2)
  subst e1
  exact kk q H1 ⟨hP, hD, hS, h.2.2.2⟩
theorem newA_i (C : Cx p s m c cc nL own args g) (h : Hx g w A H0 H locs) {n : Int32} {N : Nat} (hn : ¬ n < 0) (hN : n.toNatClampNeg = N) (h8 : N * componentBytes .int ≤ 536870912) (hc : cells + 1 ≤ R.cells) (hs : slots + N ≤ R.slots) (hdg : decode cc pc = .ok (.newarray .int, 2)) (kk : ∀ (q : Nat) (H1 : Heap), Hx g (w ++ [(q, .inl (g.2.2 1, N, .inl (fun _ => 0)))]) A H0 H1 locs → W p l e R s m args below meth c H1 locs (cells + 1) (slots + N) Q (F0 m (pc + 2) ls (.ref q :: rest))) : W p l e R s m args below meth c H locs cells slots Q (F0 m pc ls (.int n :: rest)) := by
  refine va_newa (atype := .int) C.1.1 C.1.2.1 (C.1.2.2.2.2 _ ac_int) rfl C.2 h.1 h.2.1 h.2.2.1 h.2.2.2 (a0 := (N, .inl (fun _ => 0))) (fun cA => rfl) hn hN h8 hc hs hdg (fun q cA H1 hK hP hD hS => ?_)
  have e1 : cA = g.2.2 1 := Option.some.inj ((hK.2 5 (cA, .int) rfl).2.symm.trans (C.2.2 1 (g.2.2 1, .int) rfl).2)
  subst e1
  exact kk q H1 ⟨hP, hD, hS, h.2.2.2⟩
theorem newA_j (C : Cx p s m c cc nL own args g) (h : Hx g w A H0 H locs) {n : Int32} {N : Nat} (hn : ¬ n < 0) (hN : n.toNatClampNeg = N) (h8 : N * componentBytes .long ≤ 536870912) (hc : cells + 1 ≤ R.cells) (hs : slots + N ≤ R.slots) (hdg : decode cc pc = .ok (.newarray .long, 2)) (kk : ∀ (q : Nat) (H1 : Heap), Hx g (w ++ [(q, .inl (g.2.2 2, N, .inr (.inl (fun _ => 0))))]) A H0 H1 locs → W p l e R s m args below meth c H1 locs (cells + 1) (slots + N) Q (F0 m (pc + 2) ls (.ref q :: rest))) : W p l e R s m args below meth c H locs cells slots Q (F0 m pc ls (.int n :: rest)) := by
  refine va_newa (atype := .long) C.1.1 C.1.2.1 (C.1.2.2.2.2 _ ac_long) rfl C.2 h.1 h.2.1 h.2.2.1 h.2.2.2 (a0 := (N, .inr (.inl (fun _ => 0)))) (fun cA => rfl) hn hN h8 hc hs hdg (fun q cA H1 hK hP hD hS => ?_)
  have e1 : cA = g.2.2 2 := Option.some.inj ((hK.2 5 (cA, .long) rfl).2.symm.trans (C.2.2 2 (g.2.2 2, .long) rfl).2)
  subst e1
  exact kk q H1 ⟨hP, hD, hS, h.2.2.2⟩
theorem newA_z (C : Cx p s m c cc nL own args g) (h : Hx g w A H0 H locs) {n : Int32} {N : Nat} (hn : ¬ n < 0) (hN : n.toNatClampNeg = N) (h8 : N * componentBytes .boolean ≤ 536870912) (hc : cells + 1 ≤ R.cells) (hs : slots + N ≤ R.slots) (hdg : decode cc pc = .ok (.newarray .boolean, 2)) (kk : ∀ (q : Nat) (H1 : Heap), Hx g (w ++ [(q, .inl (g.2.2 3, N, .inl (fun _ => 0)))]) A H0 H1 locs → W p l e R s m args below meth c H1 locs (cells + 1) (slots + N) Q (F0 m (pc + 2) ls (.ref q :: rest))) : W p l e R s m args below meth c H locs cells slots Q (F0 m pc ls (.int n :: rest)) := by
  refine va_newa (atype := .boolean) C.1.1 C.1.2.1 (C.1.2.2.2.2 _ ac_boolean) rfl C.2 h.1 h.2.1 h.2.2.1 h.2.2.2 (a0 := (N, .inl (fun _ => 0))) (fun cA => rfl) hn hN h8 hc hs hdg (fun q cA H1 hK hP hD hS => ?_)
  have e1 : cA = g.2.2 3 := Option.some.inj ((hK.2 5 (cA, .boolean) rfl).2.symm.trans (C.2.2 3 (g.2.2 3, .boolean) rfl).2)
  subst e1
  exact kk q H1 ⟨hP, hD, hS, h.2.2.2⟩
end QRows
/-- the reference while its constructor works: the first j arrays are there -/
def pVal (ad : Nat → Nat) (I : Nat → Int32) (j k : Nat) : Value := if mk k = 5 then .int (I k) else if mps k < j then .ref (ad k) else .null
def pObj (ad : Nat → Nat) (I : Nat → Int32) (j : Nat) : List Value := (List.range 190).map (pVal ad I j)
def zCell (g : GG) (k : Nat) : va_E := if mk k = 2 then .inl (g.2.2 2, mln k, .inr (.inl (fun _ => 0))) else .inl (g.2.2 (mk k), mln k, .inl (fun _ => 0))
def pW (g : GG) (o : Nat) (ad : Nat → Nat) (I : Nat → Int32) (j : Nat) : va_W := (o, .inr (0, pObj ad I j)) :: (mArr.take j).map (fun k => (ad k, zCell g k))
theorem pObj_get {ad : Nat → Nat} {I : Nat → Int32} {j k : Nat} (hk : k < 190) : (pObj ad I j)[k]? = some (pVal ad I j k) := by simp [pObj, hk]
theorem pObj_len {ad : Nat → Nat} {I : Nat → Int32} {j : Nat} : (pObj ad I j).length = 190 := by simp [pObj]
theorem mArr_lt : ∀ i, i < 122 → mArr.getD i 0 < 190 ∧ mk (mArr.getD i 0) ≠ 5 := by decide +kernel
theorem mArr_j {j k : Nat} (hj : mArr[j]? = some k) : mps k = j ∧ k < 190 ∧ mk k ≠ 5 := by
  have hl : j < mArr.length := (List.getElem?_eq_some_iff.mp hj).1
  have hl' : j < 122 := by rw [← mArr_len]; exact hl
  have hg : mArr.getD j 0 = k := by rw [List.getD_eq_getElem?_getD, hj]; rfl
  have h1 := mArr_ps j hl'
  have h2 := mArr_lt j hl'
  rw [hg] at h1 h2
  exact ⟨h1, h2.1, h2.2⟩
theorem pObj_step {ad : Nat → Nat} {I : Nat → Int32} {j k q : Nat} (hj : mArr[j]? = some k) : (pObj ad I j).set k (.ref q) = pObj (va_up ad k q) I (j + 1) := by
  obtain ⟨hp, hk, h5⟩ := mArr_j hj
  apply List.ext_getElem?
  intro i
  by_cases hi : i < 190
  · by_cases e : i = k
    · subst e
      rw [List.getElem?_set_self (by rw [pObj_len]; exact hi), pObj_get hi]
      simp [pVal, h5, hp, va_up]
    · rw [List.getElem?_set_ne (Ne.symm e), pObj_get hi, pObj_get hi]
      by_cases hs : mk i = 5
      · simp [pVal, hs]
      · have hne : mps i ≠ j := fun z => e (by
          have h1 := mArr_at i hi hs
          rw [z, hj] at h1
          exact (Option.some.inj h1).symm)
        by_cases hlt : mps i < j
        · simp [pVal, hs, hlt, Nat.lt_succ_of_lt hlt, va_up, e]
        · have : ¬ mps i < j + 1 := by omega
          simp [pVal, hs, hlt, this]
  · rw [List.getElem?_eq_none (by rw [List.length_set, pObj_len]; omega), List.getElem?_eq_none (by rw [pObj_len]; omega)]
theorem pW_step {g : GG} {o : Nat} {ad : Nat → Nat} {I : Nat → Int32} {j k q : Nat} (hj : mArr[j]? = some k) : (pW g o ad I j ++ [(q, zCell g k)]).set 0 (o, .inr (0, (pObj ad I j).set k (.ref q))) = pW g o (va_up ad k q) I (j + 1) := by
  obtain ⟨hp, hk, h5⟩ := mArr_j hj
  unfold pW
  rw [pObj_step hj, List.cons_append, List.set_cons_zero, List.take_succ, hj, List.map_append]
  congr 2
  · apply List.map_congr_left
    intro a ha
    obtain ⟨i, hi⟩ := List.getElem?_of_mem ha
    have hlt : i < (mArr.take j).length := (List.getElem?_eq_some_iff.mp hi).1
    rw [List.length_take] at hlt
    rw [List.getElem?_take_of_lt (by omega)] at hi
    have h1 := (mArr_j hi).1
    have hne : a ≠ k := fun z => by rw [z, hp] at h1; omega
    simp [va_up, hne]
  · simp [va_up]
theorem pObj_put {ad : Nat → Nat} {I : Nat → Int32} {j k : Nat} (hs : mk k = 5) (v : Int32) : (pObj ad I j).set k (.int v) = pObj ad (va_up I k v) j := by
  apply List.ext_getElem?
  intro i
  by_cases hi : i < 190
  · by_cases e : i = k
    · subst e
      rw [List.getElem?_set_self (by rw [pObj_len]; exact hi), pObj_get hi]
      simp [pVal, hs, va_up]
    · rw [List.getElem?_set_ne (Ne.symm e), pObj_get hi, pObj_get hi]
      simp [pVal, va_up, e]
  · rw [List.getElem?_eq_none (by rw [List.length_set, pObj_len]; omega), List.getElem?_eq_none (by rw [pObj_len]; omega)]
theorem mps_lt : ∀ k, k < 190 → mps k < 122 := by decide +kernel
theorem pW_end {g : GG} {o : Nat} {ad : Nat → Nat} {I : Nat → Int32} : pW g o ad I 122 = mW g o ad (I, fun _ _ => 0, fun _ _ => 0) := by
  have e1 : pObj ad I 122 = mObj ad (I, fun _ _ => 0, fun _ _ => 0) := by
    unfold pObj mObj
    apply List.map_congr_left
    intro k hk
    have := mps_lt k (List.mem_range.mp hk)
    simp [pVal, mVal, this]
  have e2 : (fun k => (ad k, zCell g k)) = (fun k => (ad k, mCell g (I, fun _ _ => 0, fun _ _ => 0) k)) := by
    funext k
    simp [zCell, mCell]
  unfold pW mW
  rw [List.take_of_length_le (by rw [mArr_len]; exact Nat.le_refl _), e1, e2]
section IRows
variable {p : Program} {l : Launch} {e : Env} {R : Room} {s : State} {m : MethodId} {args : Array Value} {below : List Frame} {meth : Method} {c : Code} {H H0 : Heap} {locs : List Loc} {cells slots : Nat} {Q : State → Prop}
variable {cc : ByteArray} {nL : Nat} {A : Nat → Prop} {pc : Nat} {ls : Array Slot} {rest : List Value} {g : GG} {o j q : Nat} {ad : Nat → Nat} {I : Nat → Int32}
/-- putfield of an array that was just made: a final field, another one -/
theorem ipF (C : Cx p s m c cc nL RM args g) (hnm : meth.name = "<init>") (k : Nat) (hj : mArr[j]? = some k) {cl : va_E} (hc : zCell g k = cl) (h : Hx g (pW g o ad I j ++ [(q, cl)]) A H0 H locs) (hfin : (TM k).2.2.2 = true) {ix : Nat} (hix : ix = mix k) (hn : narrow (tyM k) (.ref q) = .ref q) (hfit : fits (tyM k) (.ref q) = true) (hdg : decode cc pc = .ok (.putfield ix, 3))
    (kk : ∀ (H1 : Heap) (locs1 : List Loc), Hx g (pW g o (va_up ad k q) I (j + 1)) A H0 H1 locs1 → W p l e R s m args below meth c H1 locs1 cells slots Q (F0 m (pc + 3) ls rest)) : W p l e R s m args below meth c H locs cells slots Q (F0 m pc ls (.ref q :: .ref o :: rest)) := by
  obtain ⟨hp, hk, h5⟩ := mArr_j hj
  subst hix
  subst hc
  refine va_putF (D := (g.1, g.2.1)) (ci := 0) (v := .ref q) (ty := tyM k) (C := RM) (T := TM) (N := 190) (ref := RM) (fs := pObj ad I j) C.1.1 C.1.2.1 C.1.2.2.2.2 mLays tyM tyM_ok nmM C.1.2.2.2.1 C.2 h.1 h.2.1 h.2.2.1 0 rfl rfl k hk (C.1.2.2.2.2 _ (mLinkIn k hk)) (fun x hx => by rw [mOwn k hk] at hx; exact hx) hfin hnm (mOwn k hk) (tyM_ok k hk) hn hfit (by rw [pObj_len]; exact hk) hdg (fun H1 locs1 hP hD hS => ?_)
  rw [pW_step hj] at hP hD
  exact kk H1 locs1 ⟨hP, hD, hS, h.2.2.2⟩
theorem ipN (C : Cx p s m c cc nL RM args g) (k : Nat) (hj : mArr[j]? = some k) {cl : va_E} (hc : zCell g k = cl) (h : Hx g (pW g o ad I j ++ [(q, cl)]) A H0 H locs) (hfin : (TM k).2.2.2 = false) {ix : Nat} (hix : ix = mix k) (hn : narrow (tyM k) (.ref q) = .ref q) (hfit : fits (tyM k) (.ref q) = true) (hdg : decode cc pc = .ok (.putfield ix, 3))
    (kk : ∀ (H1 : Heap) (locs1 : List Loc), Hx g (pW g o (va_up ad k q) I (j + 1)) A H0 H1 locs1 → W p l e R s m args below meth c H1 locs1 cells slots Q (F0 m (pc + 3) ls rest)) : W p l e R s m args below meth c H locs cells slots Q (F0 m pc ls (.ref q :: .ref o :: rest)) := by
  obtain ⟨hp, hk, h5⟩ := mArr_j hj
  subst hix
  subst hc
  refine va_put (D := (g.1, g.2.1)) (ci := 0) (v := .ref q) (ty := tyM k) (C := RM) (T := TM) (N := 190) (ref := RM) (fs := pObj ad I j) C.1.1 C.1.2.1 C.1.2.2.2.2 mLays tyM tyM_ok nmM C.1.2.2.2.1 C.2 h.1 h.2.1 h.2.2.1 0 rfl rfl k hk (C.1.2.2.2.2 _ (mLinkIn k hk)) (fun x hx => by rw [mOwn k hk] at hx; exact hx) hfin (tyM_ok k hk) hn hfit (by rw [pObj_len]; exact hk) hdg (fun H1 locs1 hP hD hS => ?_)
  rw [pW_step hj] at hP hD
  exact kk H1 locs1 ⟨hP, hD, hS, h.2.2.2⟩
/-- putfield of a number -/
theorem ipI (C : Cx p s m c cc nL RM args g) (h : Hx g (pW g o ad I j) A H0 H locs) (k : Nat) (hk : k < 190) (hs : mk k = 5) (hfin : (TM k).2.2.2 = false) {ix : Nat} (hix : ix = mix k) {v : Int32} (hn : narrow (tyM k) (.int v) = .int v) (hfit : fits (tyM k) (.int v) = true) (hdg : decode cc pc = .ok (.putfield ix, 3))
    (kk : ∀ (H1 : Heap) (locs1 : List Loc), Hx g (pW g o ad (va_up I k v) j) A H0 H1 locs1 → W p l e R s m args below meth c H1 locs1 cells slots Q (F0 m (pc + 3) ls rest)) : W p l e R s m args below meth c H locs cells slots Q (F0 m pc ls (.int v :: .ref o :: rest)) := by
  subst hix
  refine va_put (D := (g.1, g.2.1)) (ci := 0) (v := .int v) (ty := tyM k) (C := RM) (T := TM) (N := 190) (ref := RM) (fs := pObj ad I j) C.1.1 C.1.2.1 C.1.2.2.2.2 mLays tyM tyM_ok nmM C.1.2.2.2.1 C.2 h.1 h.2.1 h.2.2.1 0 rfl rfl k hk (C.1.2.2.2.2 _ (mLinkIn k hk)) (fun x hx => by rw [mOwn k hk] at hx; exact hx) hfin (tyM_ok k hk) hn hfit (by rw [pObj_len]; exact hk) hdg (fun H1 locs1 hP hD hS => ?_)
  have e1 : (pW g o ad I j).set 0 (o, .inr (0, (pObj ad I j).set k (.int v))) = pW g o ad (va_up I k v) j := by rw [pObj_put hs]; rfl
  rw [e1] at hP hD
  exact kk H1 locs1 ⟨hP, hD, hS, h.2.2.2⟩
end IRows
end
section
theorem dM_init_0 : decode cM_init 0 = .ok (.aload_n 0, 1) := by decide +kernel
theorem dM_init_1 : decode cM_init 1 = .ok (.invokespecial 3, 3) := by decide +kernel
theorem dM_init_4 : decode cM_init 4 = .ok (.aload_n 0, 1) := by decide +kernel
theorem dM_init_5 : decode cM_init 5 = .ok (.sipush 5000, 3) := by decide +kernel
theorem dM_init_8 : decode cM_init 8 = .ok (.newarray .byte, 2) := by decide +kernel
theorem dM_init_10 : decode cM_init 10 = .ok (.putfield 9, 3) := by decide +kernel
theorem dM_init_13 : decode cM_init 13 = .ok (.aload_n 0, 1) := by decide +kernel
theorem dM_init_14 : decode cM_init 14 = .ok (.sipush 5000, 3) := by decide +kernel
theorem dM_init_17 : decode cM_init 17 = .ok (.newarray .byte, 2) := by decide +kernel
theorem dM_init_19 : decode cM_init 19 = .ok (.putfield 13, 3) := by decide +kernel
theorem dM_init_22 : decode cM_init 22 = .ok (.aload_n 0, 1) := by decide +kernel
theorem dM_init_23 : decode cM_init 23 = .ok (.sipush 5000, 3) := by decide +kernel
theorem dM_init_26 : decode cM_init 26 = .ok (.newarray .byte, 2) := by decide +kernel
theorem dM_init_28 : decode cM_init 28 = .ok (.putfield 16, 3) := by decide +kernel
theorem dM_init_31 : decode cM_init 31 = .ok (.aload_n 0, 1) := by decide +kernel
theorem dM_init_32 : decode cM_init 32 = .ok (.bipush 48, 2) := by decide +kernel
theorem dM_init_34 : decode cM_init 34 = .ok (.newarray .long, 2) := by decide +kernel
theorem dM_init_36 : decode cM_init 36 = .ok (.putfield 19, 3) := by decide +kernel
theorem dM_init_39 : decode cM_init 39 = .ok (.aload_n 0, 1) := by decide +kernel
theorem dM_init_40 : decode cM_init 40 = .ok (.sipush 1202, 3) := by decide +kernel
theorem dM_init_43 : decode cM_init 43 = .ok (.newarray .int, 2) := by decide +kernel
theorem dM_init_45 : decode cM_init 45 = .ok (.putfield 23, 3) := by decide +kernel
theorem dM_init_48 : decode cM_init 48 = .ok (.aload_n 0, 1) := by decide +kernel
theorem dM_init_49 : decode cM_init 49 = .ok (.sipush 1202, 3) := by decide +kernel
theorem dM_init_52 : decode cM_init 52 = .ok (.newarray .int, 2) := by decide +kernel
theorem dM_init_54 : decode cM_init 54 = .ok (.putfield 27, 3) := by decide +kernel
theorem dM_init_57 : decode cM_init 57 = .ok (.aload_n 0, 1) := by decide +kernel
theorem dM_init_58 : decode cM_init 58 = .ok (.sipush 1202, 3) := by decide +kernel
theorem dM_init_61 : decode cM_init 61 = .ok (.newarray .long, 2) := by decide +kernel
theorem dM_init_63 : decode cM_init 63 = .ok (.putfield 30, 3) := by decide +kernel
theorem dM_init_66 : decode cM_init 66 = .ok (.aload_n 0, 1) := by decide +kernel
theorem dM_init_67 : decode cM_init 67 = .ok (.bipush 20, 2) := by decide +kernel
theorem dM_init_69 : decode cM_init 69 = .ok (.newarray .long, 2) := by decide +kernel
theorem dM_init_71 : decode cM_init 71 = .ok (.putfield 33, 3) := by decide +kernel
theorem dM_init_74 : decode cM_init 74 = .ok (.aload_n 0, 1) := by decide +kernel
theorem dM_init_75 : decode cM_init 75 = .ok (.bipush 10, 2) := by decide +kernel
theorem dM_init_77 : decode cM_init 77 = .ok (.newarray .long, 2) := by decide +kernel
theorem dM_init_79 : decode cM_init 79 = .ok (.putfield 36, 3) := by decide +kernel
theorem dM_init_82 : decode cM_init 82 = .ok (.aload_n 0, 1) := by decide +kernel
theorem dM_init_83 : decode cM_init 83 = .ok (.bipush 6, 2) := by decide +kernel
theorem dM_init_85 : decode cM_init 85 = .ok (.newarray .long, 2) := by decide +kernel
theorem dM_init_87 : decode cM_init 87 = .ok (.putfield 39, 3) := by decide +kernel
theorem dM_init_90 : decode cM_init 90 = .ok (.aload_n 0, 1) := by decide +kernel
theorem dM_init_91 : decode cM_init 91 = .ok (.bipush 20, 2) := by decide +kernel
theorem dM_init_93 : decode cM_init 93 = .ok (.newarray .int, 2) := by decide +kernel
theorem dM_init_95 : decode cM_init 95 = .ok (.putfield 42, 3) := by decide +kernel
theorem dM_init_98 : decode cM_init 98 = .ok (.aload_n 0, 1) := by decide +kernel
theorem dM_init_99 : decode cM_init 99 = .ok (.bipush 20, 2) := by decide +kernel
theorem dM_init_101 : decode cM_init 101 = .ok (.newarray .int, 2) := by decide +kernel
theorem dM_init_103 : decode cM_init 103 = .ok (.putfield 45, 3) := by decide +kernel
theorem dM_init_106 : decode cM_init 106 = .ok (.aload_n 0, 1) := by decide +kernel
theorem dM_init_107 : decode cM_init 107 = .ok (.bipush 60, 2) := by decide +kernel
theorem dM_init_109 : decode cM_init 109 = .ok (.newarray .int, 2) := by decide +kernel
theorem dM_init_111 : decode cM_init 111 = .ok (.putfield 48, 3) := by decide +kernel
theorem dM_init_114 : decode cM_init 114 = .ok (.aload_n 0, 1) := by decide +kernel
theorem dM_init_115 : decode cM_init 115 = .ok (.bipush 10, 2) := by decide +kernel
theorem dM_init_117 : decode cM_init 117 = .ok (.newarray .long, 2) := by decide +kernel
theorem dM_init_119 : decode cM_init 119 = .ok (.putfield 51, 3) := by decide +kernel
theorem dM_init_122 : decode cM_init 122 = .ok (.aload_n 0, 1) := by decide +kernel
theorem dM_init_123 : decode cM_init 123 = .ok (.bipush 10, 2) := by decide +kernel
theorem dM_init_125 : decode cM_init 125 = .ok (.newarray .long, 2) := by decide +kernel
theorem dM_init_127 : decode cM_init 127 = .ok (.putfield 54, 3) := by decide +kernel
theorem dM_init_130 : decode cM_init 130 = .ok (.aload_n 0, 1) := by decide +kernel
theorem dM_init_131 : decode cM_init 131 = .ok (.bipush 10, 2) := by decide +kernel
theorem dM_init_133 : decode cM_init 133 = .ok (.newarray .int, 2) := by decide +kernel
theorem dM_init_135 : decode cM_init 135 = .ok (.putfield 57, 3) := by decide +kernel
theorem dM_init_138 : decode cM_init 138 = .ok (.aload_n 0, 1) := by decide +kernel
theorem dM_init_139 : decode cM_init 139 = .ok (.bipush 10, 2) := by decide +kernel
theorem dM_init_141 : decode cM_init 141 = .ok (.newarray .int, 2) := by decide +kernel
theorem dM_init_143 : decode cM_init 143 = .ok (.putfield 60, 3) := by decide +kernel
theorem dM_init_146 : decode cM_init 146 = .ok (.aload_n 0, 1) := by decide +kernel
theorem dM_init_147 : decode cM_init 147 = .ok (.bipush 10, 2) := by decide +kernel
theorem dM_init_149 : decode cM_init 149 = .ok (.newarray .int, 2) := by decide +kernel
theorem dM_init_151 : decode cM_init 151 = .ok (.putfield 63, 3) := by decide +kernel
theorem dM_init_154 : decode cM_init 154 = .ok (.aload_n 0, 1) := by decide +kernel
theorem dM_init_155 : decode cM_init 155 = .ok (.bipush 10, 2) := by decide +kernel
theorem dM_init_157 : decode cM_init 157 = .ok (.newarray .int, 2) := by decide +kernel
theorem dM_init_159 : decode cM_init 159 = .ok (.putfield 66, 3) := by decide +kernel
theorem dM_init_162 : decode cM_init 162 = .ok (.aload_n 0, 1) := by decide +kernel
theorem dM_init_163 : decode cM_init 163 = .ok (.bipush 10, 2) := by decide +kernel
theorem dM_init_165 : decode cM_init 165 = .ok (.newarray .int, 2) := by decide +kernel
theorem dM_init_167 : decode cM_init 167 = .ok (.putfield 69, 3) := by decide +kernel
theorem dM_init_170 : decode cM_init 170 = .ok (.aload_n 0, 1) := by decide +kernel
theorem dM_init_171 : decode cM_init 171 = .ok (.bipush 10, 2) := by decide +kernel
theorem dM_init_173 : decode cM_init 173 = .ok (.newarray .int, 2) := by decide +kernel
theorem dM_init_175 : decode cM_init 175 = .ok (.putfield 72, 3) := by decide +kernel
theorem dM_init_178 : decode cM_init 178 = .ok (.aload_n 0, 1) := by decide +kernel
theorem dM_init_179 : decode cM_init 179 = .ok (.bipush 10, 2) := by decide +kernel
theorem dM_init_181 : decode cM_init 181 = .ok (.newarray .boolean, 2) := by decide +kernel
theorem dM_init_183 : decode cM_init 183 = .ok (.putfield 75, 3) := by decide +kernel
theorem dM_init_186 : decode cM_init 186 = .ok (.aload_n 0, 1) := by decide +kernel
theorem dM_init_187 : decode cM_init 187 = .ok (.bipush 6, 2) := by decide +kernel
theorem dM_init_189 : decode cM_init 189 = .ok (.newarray .int, 2) := by decide +kernel
theorem dM_init_191 : decode cM_init 191 = .ok (.putfield 79, 3) := by decide +kernel
theorem dM_init_194 : decode cM_init 194 = .ok (.aload_n 0, 1) := by decide +kernel
theorem dM_init_195 : decode cM_init 195 = .ok (.bipush 6, 2) := by decide +kernel
theorem dM_init_197 : decode cM_init 197 = .ok (.newarray .int, 2) := by decide +kernel
theorem dM_init_199 : decode cM_init 199 = .ok (.putfield 82, 3) := by decide +kernel
theorem dM_init_202 : decode cM_init 202 = .ok (.aload_n 0, 1) := by decide +kernel
theorem dM_init_203 : decode cM_init 203 = .ok (.bipush 6, 2) := by decide +kernel
theorem dM_init_205 : decode cM_init 205 = .ok (.newarray .int, 2) := by decide +kernel
theorem dM_init_207 : decode cM_init 207 = .ok (.putfield 85, 3) := by decide +kernel
theorem dM_init_210 : decode cM_init 210 = .ok (.aload_n 0, 1) := by decide +kernel
theorem dM_init_211 : decode cM_init 211 = .ok (.bipush 6, 2) := by decide +kernel
theorem dM_init_213 : decode cM_init 213 = .ok (.newarray .int, 2) := by decide +kernel
theorem dM_init_215 : decode cM_init 215 = .ok (.putfield 88, 3) := by decide +kernel
theorem dM_init_218 : decode cM_init 218 = .ok (.aload_n 0, 1) := by decide +kernel
theorem dM_init_219 : decode cM_init 219 = .ok (.bipush 6, 2) := by decide +kernel
theorem dM_init_221 : decode cM_init 221 = .ok (.newarray .int, 2) := by decide +kernel
theorem dM_init_223 : decode cM_init 223 = .ok (.putfield 91, 3) := by decide +kernel
theorem dM_init_226 : decode cM_init 226 = .ok (.aload_n 0, 1) := by decide +kernel
theorem dM_init_227 : decode cM_init 227 = .ok (.bipush 6, 2) := by decide +kernel
theorem dM_init_229 : decode cM_init 229 = .ok (.newarray .int, 2) := by decide +kernel
theorem dM_init_231 : decode cM_init 231 = .ok (.putfield 94, 3) := by decide +kernel
theorem dM_init_234 : decode cM_init 234 = .ok (.aload_n 0, 1) := by decide +kernel
theorem dM_init_235 : decode cM_init 235 = .ok (.bipush 6, 2) := by decide +kernel
theorem dM_init_237 : decode cM_init 237 = .ok (.newarray .int, 2) := by decide +kernel
theorem dM_init_239 : decode cM_init 239 = .ok (.putfield 97, 3) := by decide +kernel
theorem dM_init_242 : decode cM_init 242 = .ok (.aload_n 0, 1) := by decide +kernel
theorem dM_init_243 : decode cM_init 243 = .ok (.bipush 6, 2) := by decide +kernel
theorem dM_init_245 : decode cM_init 245 = .ok (.newarray .int, 2) := by decide +kernel
theorem dM_init_247 : decode cM_init 247 = .ok (.putfield 100, 3) := by decide +kernel
theorem dM_init_250 : decode cM_init 250 = .ok (.aload_n 0, 1) := by decide +kernel
theorem dM_init_251 : decode cM_init 251 = .ok (.bipush 6, 2) := by decide +kernel
theorem dM_init_253 : decode cM_init 253 = .ok (.newarray .int, 2) := by decide +kernel
theorem dM_init_255 : decode cM_init 255 = .ok (.putfield 103, 3) := by decide +kernel
theorem dM_init_258 : decode cM_init 258 = .ok (.aload_n 0, 1) := by decide +kernel
theorem dM_init_259 : decode cM_init 259 = .ok (.bipush 6, 2) := by decide +kernel
theorem dM_init_261 : decode cM_init 261 = .ok (.newarray .int, 2) := by decide +kernel
theorem dM_init_263 : decode cM_init 263 = .ok (.putfield 106, 3) := by decide +kernel
theorem dM_init_266 : decode cM_init 266 = .ok (.aload_n 0, 1) := by decide +kernel
theorem dM_init_267 : decode cM_init 267 = .ok (.bipush 48, 2) := by decide +kernel
theorem dM_init_269 : decode cM_init 269 = .ok (.newarray .long, 2) := by decide +kernel
end
section
theorem dM_init_271 : decode cM_init 271 = .ok (.putfield 109, 3) := by decide +kernel
theorem dM_init_274 : decode cM_init 274 = .ok (.aload_n 0, 1) := by decide +kernel
theorem dM_init_275 : decode cM_init 275 = .ok (.bipush 18, 2) := by decide +kernel
theorem dM_init_277 : decode cM_init 277 = .ok (.newarray .long, 2) := by decide +kernel
theorem dM_init_279 : decode cM_init 279 = .ok (.putfield 112, 3) := by decide +kernel
theorem dM_init_282 : decode cM_init 282 = .ok (.aload_n 0, 1) := by decide +kernel
theorem dM_init_283 : decode cM_init 283 = .ok (.bipush 72, 2) := by decide +kernel
theorem dM_init_285 : decode cM_init 285 = .ok (.newarray .long, 2) := by decide +kernel
theorem dM_init_287 : decode cM_init 287 = .ok (.putfield 115, 3) := by decide +kernel
theorem dM_init_290 : decode cM_init 290 = .ok (.aload_n 0, 1) := by decide +kernel
theorem dM_init_291 : decode cM_init 291 = .ok (.bipush 60, 2) := by decide +kernel
theorem dM_init_293 : decode cM_init 293 = .ok (.newarray .long, 2) := by decide +kernel
theorem dM_init_295 : decode cM_init 295 = .ok (.putfield 118, 3) := by decide +kernel
theorem dM_init_298 : decode cM_init 298 = .ok (.aload_n 0, 1) := by decide +kernel
theorem dM_init_299 : decode cM_init 299 = .ok (.bipush 48, 2) := by decide +kernel
theorem dM_init_301 : decode cM_init 301 = .ok (.newarray .int, 2) := by decide +kernel
theorem dM_init_303 : decode cM_init 303 = .ok (.putfield 121, 3) := by decide +kernel
theorem dM_init_306 : decode cM_init 306 = .ok (.aload_n 0, 1) := by decide +kernel
theorem dM_init_307 : decode cM_init 307 = .ok (.bipush 48, 2) := by decide +kernel
theorem dM_init_309 : decode cM_init 309 = .ok (.newarray .int, 2) := by decide +kernel
theorem dM_init_311 : decode cM_init 311 = .ok (.putfield 124, 3) := by decide +kernel
theorem dM_init_314 : decode cM_init 314 = .ok (.aload_n 0, 1) := by decide +kernel
theorem dM_init_315 : decode cM_init 315 = .ok (.bipush 48, 2) := by decide +kernel
theorem dM_init_317 : decode cM_init 317 = .ok (.newarray .int, 2) := by decide +kernel
theorem dM_init_319 : decode cM_init 319 = .ok (.putfield 127, 3) := by decide +kernel
theorem dM_init_322 : decode cM_init 322 = .ok (.aload_n 0, 1) := by decide +kernel
theorem dM_init_323 : decode cM_init 323 = .ok (.bipush 48, 2) := by decide +kernel
theorem dM_init_325 : decode cM_init 325 = .ok (.newarray .int, 2) := by decide +kernel
theorem dM_init_327 : decode cM_init 327 = .ok (.putfield 130, 3) := by decide +kernel
theorem dM_init_330 : decode cM_init 330 = .ok (.aload_n 0, 1) := by decide +kernel
theorem dM_init_331 : decode cM_init 331 = .ok (.bipush 18, 2) := by decide +kernel
theorem dM_init_333 : decode cM_init 333 = .ok (.newarray .int, 2) := by decide +kernel
theorem dM_init_335 : decode cM_init 335 = .ok (.putfield 133, 3) := by decide +kernel
theorem dM_init_338 : decode cM_init 338 = .ok (.aload_n 0, 1) := by decide +kernel
theorem dM_init_339 : decode cM_init 339 = .ok (.bipush 72, 2) := by decide +kernel
theorem dM_init_341 : decode cM_init 341 = .ok (.newarray .int, 2) := by decide +kernel
theorem dM_init_343 : decode cM_init 343 = .ok (.putfield 136, 3) := by decide +kernel
theorem dM_init_346 : decode cM_init 346 = .ok (.aload_n 0, 1) := by decide +kernel
theorem dM_init_347 : decode cM_init 347 = .ok (.bipush 60, 2) := by decide +kernel
theorem dM_init_349 : decode cM_init 349 = .ok (.newarray .int, 2) := by decide +kernel
theorem dM_init_351 : decode cM_init 351 = .ok (.putfield 139, 3) := by decide +kernel
theorem dM_init_354 : decode cM_init 354 = .ok (.aload_n 0, 1) := by decide +kernel
theorem dM_init_355 : decode cM_init 355 = .ok (.bipush 60, 2) := by decide +kernel
theorem dM_init_357 : decode cM_init 357 = .ok (.newarray .int, 2) := by decide +kernel
theorem dM_init_359 : decode cM_init 359 = .ok (.putfield 142, 3) := by decide +kernel
theorem dM_init_362 : decode cM_init 362 = .ok (.aload_n 0, 1) := by decide +kernel
theorem dM_init_363 : decode cM_init 363 = .ok (.bipush 60, 2) := by decide +kernel
theorem dM_init_365 : decode cM_init 365 = .ok (.newarray .int, 2) := by decide +kernel
theorem dM_init_367 : decode cM_init 367 = .ok (.putfield 145, 3) := by decide +kernel
theorem dM_init_370 : decode cM_init 370 = .ok (.aload_n 0, 1) := by decide +kernel
theorem dM_init_371 : decode cM_init 371 = .ok (.bipush 36, 2) := by decide +kernel
theorem dM_init_373 : decode cM_init 373 = .ok (.newarray .long, 2) := by decide +kernel
theorem dM_init_375 : decode cM_init 375 = .ok (.putfield 148, 3) := by decide +kernel
theorem dM_init_378 : decode cM_init 378 = .ok (.aload_n 0, 1) := by decide +kernel
theorem dM_init_379 : decode cM_init 379 = .ok (.bipush 36, 2) := by decide +kernel
theorem dM_init_381 : decode cM_init 381 = .ok (.newarray .int, 2) := by decide +kernel
theorem dM_init_383 : decode cM_init 383 = .ok (.putfield 151, 3) := by decide +kernel
theorem dM_init_386 : decode cM_init 386 = .ok (.aload_n 0, 1) := by decide +kernel
theorem dM_init_387 : decode cM_init 387 = .ok (.sipush 1300, 3) := by decide +kernel
theorem dM_init_390 : decode cM_init 390 = .ok (.newarray .int, 2) := by decide +kernel
theorem dM_init_392 : decode cM_init 392 = .ok (.putfield 154, 3) := by decide +kernel
theorem dM_init_395 : decode cM_init 395 = .ok (.aload_n 0, 1) := by decide +kernel
theorem dM_init_396 : decode cM_init 396 = .ok (.sipush 1300, 3) := by decide +kernel
theorem dM_init_399 : decode cM_init 399 = .ok (.newarray .int, 2) := by decide +kernel
theorem dM_init_401 : decode cM_init 401 = .ok (.putfield 157, 3) := by decide +kernel
theorem dM_init_404 : decode cM_init 404 = .ok (.aload_n 0, 1) := by decide +kernel
theorem dM_init_405 : decode cM_init 405 = .ok (.sipush 1300, 3) := by decide +kernel
theorem dM_init_408 : decode cM_init 408 = .ok (.newarray .int, 2) := by decide +kernel
theorem dM_init_410 : decode cM_init 410 = .ok (.putfield 160, 3) := by decide +kernel
theorem dM_init_413 : decode cM_init 413 = .ok (.aload_n 0, 1) := by decide +kernel
theorem dM_init_414 : decode cM_init 414 = .ok (.sipush 1300, 3) := by decide +kernel
theorem dM_init_417 : decode cM_init 417 = .ok (.newarray .int, 2) := by decide +kernel
theorem dM_init_419 : decode cM_init 419 = .ok (.putfield 163, 3) := by decide +kernel
theorem dM_init_422 : decode cM_init 422 = .ok (.aload_n 0, 1) := by decide +kernel
theorem dM_init_423 : decode cM_init 423 = .ok (.sipush 1300, 3) := by decide +kernel
theorem dM_init_426 : decode cM_init 426 = .ok (.newarray .int, 2) := by decide +kernel
theorem dM_init_428 : decode cM_init 428 = .ok (.putfield 166, 3) := by decide +kernel
theorem dM_init_431 : decode cM_init 431 = .ok (.aload_n 0, 1) := by decide +kernel
theorem dM_init_432 : decode cM_init 432 = .ok (.sipush 1300, 3) := by decide +kernel
theorem dM_init_435 : decode cM_init 435 = .ok (.newarray .int, 2) := by decide +kernel
theorem dM_init_437 : decode cM_init 437 = .ok (.putfield 169, 3) := by decide +kernel
theorem dM_init_440 : decode cM_init 440 = .ok (.aload_n 0, 1) := by decide +kernel
theorem dM_init_441 : decode cM_init 441 = .ok (.sipush 1300, 3) := by decide +kernel
theorem dM_init_444 : decode cM_init 444 = .ok (.newarray .int, 2) := by decide +kernel
theorem dM_init_446 : decode cM_init 446 = .ok (.putfield 172, 3) := by decide +kernel
theorem dM_init_449 : decode cM_init 449 = .ok (.aload_n 0, 1) := by decide +kernel
theorem dM_init_450 : decode cM_init 450 = .ok (.sipush 1300, 3) := by decide +kernel
theorem dM_init_453 : decode cM_init 453 = .ok (.newarray .int, 2) := by decide +kernel
theorem dM_init_455 : decode cM_init 455 = .ok (.putfield 175, 3) := by decide +kernel
theorem dM_init_458 : decode cM_init 458 = .ok (.aload_n 0, 1) := by decide +kernel
theorem dM_init_459 : decode cM_init 459 = .ok (.sipush 1300, 3) := by decide +kernel
theorem dM_init_462 : decode cM_init 462 = .ok (.newarray .int, 2) := by decide +kernel
theorem dM_init_464 : decode cM_init 464 = .ok (.putfield 178, 3) := by decide +kernel
theorem dM_init_467 : decode cM_init 467 = .ok (.aload_n 0, 1) := by decide +kernel
theorem dM_init_468 : decode cM_init 468 = .ok (.sipush 1300, 3) := by decide +kernel
theorem dM_init_471 : decode cM_init 471 = .ok (.newarray .int, 2) := by decide +kernel
theorem dM_init_473 : decode cM_init 473 = .ok (.putfield 181, 3) := by decide +kernel
theorem dM_init_476 : decode cM_init 476 = .ok (.aload_n 0, 1) := by decide +kernel
theorem dM_init_477 : decode cM_init 477 = .ok (.sipush 3900, 3) := by decide +kernel
theorem dM_init_480 : decode cM_init 480 = .ok (.newarray .int, 2) := by decide +kernel
theorem dM_init_482 : decode cM_init 482 = .ok (.putfield 184, 3) := by decide +kernel
theorem dM_init_485 : decode cM_init 485 = .ok (.aload_n 0, 1) := by decide +kernel
theorem dM_init_486 : decode cM_init 486 = .ok (.sipush 1300, 3) := by decide +kernel
theorem dM_init_489 : decode cM_init 489 = .ok (.newarray .int, 2) := by decide +kernel
theorem dM_init_491 : decode cM_init 491 = .ok (.putfield 187, 3) := by decide +kernel
theorem dM_init_494 : decode cM_init 494 = .ok (.aload_n 0, 1) := by decide +kernel
theorem dM_init_495 : decode cM_init 495 = .ok (.sipush 1300, 3) := by decide +kernel
theorem dM_init_498 : decode cM_init 498 = .ok (.newarray .int, 2) := by decide +kernel
theorem dM_init_500 : decode cM_init 500 = .ok (.putfield 190, 3) := by decide +kernel
theorem dM_init_503 : decode cM_init 503 = .ok (.aload_n 0, 1) := by decide +kernel
theorem dM_init_504 : decode cM_init 504 = .ok (.sipush 1300, 3) := by decide +kernel
theorem dM_init_507 : decode cM_init 507 = .ok (.newarray .int, 2) := by decide +kernel
theorem dM_init_509 : decode cM_init 509 = .ok (.putfield 193, 3) := by decide +kernel
theorem dM_init_512 : decode cM_init 512 = .ok (.aload_n 0, 1) := by decide +kernel
theorem dM_init_513 : decode cM_init 513 = .ok (.sipush 1300, 3) := by decide +kernel
theorem dM_init_516 : decode cM_init 516 = .ok (.newarray .int, 2) := by decide +kernel
theorem dM_init_518 : decode cM_init 518 = .ok (.putfield 196, 3) := by decide +kernel
theorem dM_init_521 : decode cM_init 521 = .ok (.aload_n 0, 1) := by decide +kernel
theorem dM_init_522 : decode cM_init 522 = .ok (.sipush 1300, 3) := by decide +kernel
theorem dM_init_525 : decode cM_init 525 = .ok (.newarray .int, 2) := by decide +kernel
theorem dM_init_527 : decode cM_init 527 = .ok (.putfield 199, 3) := by decide +kernel
theorem dM_init_530 : decode cM_init 530 = .ok (.aload_n 0, 1) := by decide +kernel
theorem dM_init_531 : decode cM_init 531 = .ok (.sipush 1300, 3) := by decide +kernel
theorem dM_init_534 : decode cM_init 534 = .ok (.newarray .int, 2) := by decide +kernel
theorem dM_init_536 : decode cM_init 536 = .ok (.putfield 202, 3) := by decide +kernel
theorem dM_init_539 : decode cM_init 539 = .ok (.aload_n 0, 1) := by decide +kernel
theorem dM_init_540 : decode cM_init 540 = .ok (.sipush 3900, 3) := by decide +kernel
theorem dM_init_543 : decode cM_init 543 = .ok (.newarray .int, 2) := by decide +kernel
theorem dM_init_545 : decode cM_init 545 = .ok (.putfield 205, 3) := by decide +kernel
theorem dM_init_548 : decode cM_init 548 = .ok (.aload_n 0, 1) := by decide +kernel
theorem dM_init_549 : decode cM_init 549 = .ok (.sipush 1300, 3) := by decide +kernel
theorem dM_init_552 : decode cM_init 552 = .ok (.newarray .int, 2) := by decide +kernel
theorem dM_init_554 : decode cM_init 554 = .ok (.putfield 208, 3) := by decide +kernel
end
section
theorem dM_init_557 : decode cM_init 557 = .ok (.aload_n 0, 1) := by decide +kernel
theorem dM_init_558 : decode cM_init 558 = .ok (.sipush 1300, 3) := by decide +kernel
theorem dM_init_561 : decode cM_init 561 = .ok (.newarray .int, 2) := by decide +kernel
theorem dM_init_563 : decode cM_init 563 = .ok (.putfield 211, 3) := by decide +kernel
theorem dM_init_566 : decode cM_init 566 = .ok (.aload_n 0, 1) := by decide +kernel
theorem dM_init_567 : decode cM_init 567 = .ok (.sipush 1300, 3) := by decide +kernel
theorem dM_init_570 : decode cM_init 570 = .ok (.newarray .int, 2) := by decide +kernel
theorem dM_init_572 : decode cM_init 572 = .ok (.putfield 214, 3) := by decide +kernel
theorem dM_init_575 : decode cM_init 575 = .ok (.aload_n 0, 1) := by decide +kernel
theorem dM_init_576 : decode cM_init 576 = .ok (.sipush 1300, 3) := by decide +kernel
theorem dM_init_579 : decode cM_init 579 = .ok (.newarray .int, 2) := by decide +kernel
theorem dM_init_581 : decode cM_init 581 = .ok (.putfield 217, 3) := by decide +kernel
theorem dM_init_584 : decode cM_init 584 = .ok (.aload_n 0, 1) := by decide +kernel
theorem dM_init_585 : decode cM_init 585 = .ok (.sipush 1300, 3) := by decide +kernel
theorem dM_init_588 : decode cM_init 588 = .ok (.newarray .int, 2) := by decide +kernel
theorem dM_init_590 : decode cM_init 590 = .ok (.putfield 220, 3) := by decide +kernel
theorem dM_init_593 : decode cM_init 593 = .ok (.aload_n 0, 1) := by decide +kernel
theorem dM_init_594 : decode cM_init 594 = .ok (.sipush 1300, 3) := by decide +kernel
theorem dM_init_597 : decode cM_init 597 = .ok (.newarray .boolean, 2) := by decide +kernel
theorem dM_init_599 : decode cM_init 599 = .ok (.putfield 223, 3) := by decide +kernel
theorem dM_init_602 : decode cM_init 602 = .ok (.aload_n 0, 1) := by decide +kernel
theorem dM_init_603 : decode cM_init 603 = .ok (.sipush 1300, 3) := by decide +kernel
theorem dM_init_606 : decode cM_init 606 = .ok (.newarray .int, 2) := by decide +kernel
theorem dM_init_608 : decode cM_init 608 = .ok (.putfield 226, 3) := by decide +kernel
theorem dM_init_611 : decode cM_init 611 = .ok (.aload_n 0, 1) := by decide +kernel
theorem dM_init_612 : decode cM_init 612 = .ok (.sipush 1300, 3) := by decide +kernel
theorem dM_init_615 : decode cM_init 615 = .ok (.newarray .int, 2) := by decide +kernel
theorem dM_init_617 : decode cM_init 617 = .ok (.putfield 229, 3) := by decide +kernel
theorem dM_init_620 : decode cM_init 620 = .ok (.aload_n 0, 1) := by decide +kernel
theorem dM_init_621 : decode cM_init 621 = .ok (.sipush 1300, 3) := by decide +kernel
theorem dM_init_624 : decode cM_init 624 = .ok (.newarray .int, 2) := by decide +kernel
theorem dM_init_626 : decode cM_init 626 = .ok (.putfield 232, 3) := by decide +kernel
theorem dM_init_629 : decode cM_init 629 = .ok (.aload_n 0, 1) := by decide +kernel
theorem dM_init_630 : decode cM_init 630 = .ok (.sipush 1300, 3) := by decide +kernel
theorem dM_init_633 : decode cM_init 633 = .ok (.newarray .int, 2) := by decide +kernel
theorem dM_init_635 : decode cM_init 635 = .ok (.putfield 235, 3) := by decide +kernel
theorem dM_init_638 : decode cM_init 638 = .ok (.aload_n 0, 1) := by decide +kernel
theorem dM_init_639 : decode cM_init 639 = .ok (.bipush 14, 2) := by decide +kernel
theorem dM_init_641 : decode cM_init 641 = .ok (.newarray .int, 2) := by decide +kernel
theorem dM_init_643 : decode cM_init 643 = .ok (.putfield 238, 3) := by decide +kernel
theorem dM_init_646 : decode cM_init 646 = .ok (.aload_n 0, 1) := by decide +kernel
theorem dM_init_647 : decode cM_init 647 = .ok (.bipush 14, 2) := by decide +kernel
theorem dM_init_649 : decode cM_init 649 = .ok (.newarray .int, 2) := by decide +kernel
theorem dM_init_651 : decode cM_init 651 = .ok (.putfield 241, 3) := by decide +kernel
theorem dM_init_654 : decode cM_init 654 = .ok (.aload_n 0, 1) := by decide +kernel
theorem dM_init_655 : decode cM_init 655 = .ok (.bipush 14, 2) := by decide +kernel
theorem dM_init_657 : decode cM_init 657 = .ok (.newarray .int, 2) := by decide +kernel
theorem dM_init_659 : decode cM_init 659 = .ok (.putfield 244, 3) := by decide +kernel
theorem dM_init_662 : decode cM_init 662 = .ok (.aload_n 0, 1) := by decide +kernel
theorem dM_init_663 : decode cM_init 663 = .ok (.bipush 14, 2) := by decide +kernel
theorem dM_init_665 : decode cM_init 665 = .ok (.newarray .int, 2) := by decide +kernel
theorem dM_init_667 : decode cM_init 667 = .ok (.putfield 247, 3) := by decide +kernel
theorem dM_init_670 : decode cM_init 670 = .ok (.aload_n 0, 1) := by decide +kernel
theorem dM_init_671 : decode cM_init 671 = .ok (.bipush 14, 2) := by decide +kernel
theorem dM_init_673 : decode cM_init 673 = .ok (.newarray .int, 2) := by decide +kernel
theorem dM_init_675 : decode cM_init 675 = .ok (.putfield 250, 3) := by decide +kernel
theorem dM_init_678 : decode cM_init 678 = .ok (.aload_n 0, 1) := by decide +kernel
theorem dM_init_679 : decode cM_init 679 = .ok (.bipush 14, 2) := by decide +kernel
theorem dM_init_681 : decode cM_init 681 = .ok (.newarray .boolean, 2) := by decide +kernel
theorem dM_init_683 : decode cM_init 683 = .ok (.putfield 253, 3) := by decide +kernel
theorem dM_init_686 : decode cM_init 686 = .ok (.aload_n 0, 1) := by decide +kernel
theorem dM_init_687 : decode cM_init 687 = .ok (.bipush 14, 2) := by decide +kernel
theorem dM_init_689 : decode cM_init 689 = .ok (.newarray .boolean, 2) := by decide +kernel
theorem dM_init_691 : decode cM_init 691 = .ok (.putfield 256, 3) := by decide +kernel
theorem dM_init_694 : decode cM_init 694 = .ok (.aload_n 0, 1) := by decide +kernel
theorem dM_init_695 : decode cM_init 695 = .ok (.sipush 3000, 3) := by decide +kernel
theorem dM_init_698 : decode cM_init 698 = .ok (.newarray .int, 2) := by decide +kernel
theorem dM_init_700 : decode cM_init 700 = .ok (.putfield 259, 3) := by decide +kernel
theorem dM_init_703 : decode cM_init 703 = .ok (.aload_n 0, 1) := by decide +kernel
theorem dM_init_704 : decode cM_init 704 = .ok (.sipush 3000, 3) := by decide +kernel
theorem dM_init_707 : decode cM_init 707 = .ok (.newarray .int, 2) := by decide +kernel
theorem dM_init_709 : decode cM_init 709 = .ok (.putfield 262, 3) := by decide +kernel
theorem dM_init_712 : decode cM_init 712 = .ok (.aload_n 0, 1) := by decide +kernel
theorem dM_init_713 : decode cM_init 713 = .ok (.sipush 1240, 3) := by decide +kernel
theorem dM_init_716 : decode cM_init 716 = .ok (.newarray .int, 2) := by decide +kernel
theorem dM_init_718 : decode cM_init 718 = .ok (.putfield 265, 3) := by decide +kernel
theorem dM_init_721 : decode cM_init 721 = .ok (.aload_n 0, 1) := by decide +kernel
theorem dM_init_722 : decode cM_init 722 = .ok (.sipush 1240, 3) := by decide +kernel
theorem dM_init_725 : decode cM_init 725 = .ok (.newarray .int, 2) := by decide +kernel
theorem dM_init_727 : decode cM_init 727 = .ok (.putfield 268, 3) := by decide +kernel
theorem dM_init_730 : decode cM_init 730 = .ok (.aload_n 0, 1) := by decide +kernel
theorem dM_init_731 : decode cM_init 731 = .ok (.sipush 1202, 3) := by decide +kernel
theorem dM_init_734 : decode cM_init 734 = .ok (.newarray .int, 2) := by decide +kernel
theorem dM_init_736 : decode cM_init 736 = .ok (.putfield 271, 3) := by decide +kernel
theorem dM_init_739 : decode cM_init 739 = .ok (.aload_n 0, 1) := by decide +kernel
theorem dM_init_740 : decode cM_init 740 = .ok (.sipush 1202, 3) := by decide +kernel
theorem dM_init_743 : decode cM_init 743 = .ok (.newarray .int, 2) := by decide +kernel
theorem dM_init_745 : decode cM_init 745 = .ok (.putfield 274, 3) := by decide +kernel
theorem dM_init_748 : decode cM_init 748 = .ok (.aload_n 0, 1) := by decide +kernel
theorem dM_init_749 : decode cM_init 749 = .ok (.sipush 1202, 3) := by decide +kernel
theorem dM_init_752 : decode cM_init 752 = .ok (.newarray .boolean, 2) := by decide +kernel
theorem dM_init_754 : decode cM_init 754 = .ok (.putfield 277, 3) := by decide +kernel
theorem dM_init_757 : decode cM_init 757 = .ok (.aload_n 0, 1) := by decide +kernel
theorem dM_init_758 : decode cM_init 758 = .ok (.bipush 40, 2) := by decide +kernel
theorem dM_init_760 : decode cM_init 760 = .ok (.newarray .boolean, 2) := by decide +kernel
theorem dM_init_762 : decode cM_init 762 = .ok (.putfield 280, 3) := by decide +kernel
theorem dM_init_765 : decode cM_init 765 = .ok (.aload_n 0, 1) := by decide +kernel
theorem dM_init_766 : decode cM_init 766 = .ok (.iconst (-1), 1) := by decide +kernel
theorem dM_init_767 : decode cM_init 767 = .ok (.putfield 283, 3) := by decide +kernel
theorem dM_init_770 : decode cM_init 770 = .ok (.aload_n 0, 1) := by decide +kernel
theorem dM_init_771 : decode cM_init 771 = .ok (.sipush 400, 3) := by decide +kernel
theorem dM_init_774 : decode cM_init 774 = .ok (.newarray .int, 2) := by decide +kernel
theorem dM_init_776 : decode cM_init 776 = .ok (.putfield 287, 3) := by decide +kernel
theorem dM_init_779 : decode cM_init 779 = .ok (.aload_n 0, 1) := by decide +kernel
theorem dM_init_780 : decode cM_init 780 = .ok (.sipush 400, 3) := by decide +kernel
theorem dM_init_783 : decode cM_init 783 = .ok (.newarray .int, 2) := by decide +kernel
theorem dM_init_785 : decode cM_init 785 = .ok (.putfield 290, 3) := by decide +kernel
theorem dM_init_788 : decode cM_init 788 = .ok (.aload_n 0, 1) := by decide +kernel
theorem dM_init_789 : decode cM_init 789 = .ok (.bipush 6, 2) := by decide +kernel
theorem dM_init_791 : decode cM_init 791 = .ok (.newarray .int, 2) := by decide +kernel
theorem dM_init_793 : decode cM_init 793 = .ok (.putfield 293, 3) := by decide +kernel
theorem dM_init_796 : decode cM_init 796 = .ok (.aload_n 0, 1) := by decide +kernel
theorem dM_init_797 : decode cM_init 797 = .ok (.sipush 1300, 3) := by decide +kernel
theorem dM_init_800 : decode cM_init 800 = .ok (.newarray .boolean, 2) := by decide +kernel
theorem dM_init_802 : decode cM_init 802 = .ok (.putfield 296, 3) := by decide +kernel
theorem dM_init_805 : decode cM_init 805 = .ok (.aload_n 0, 1) := by decide +kernel
theorem dM_init_806 : decode cM_init 806 = .ok (.sipush 1104, 3) := by decide +kernel
theorem dM_init_809 : decode cM_init 809 = .ok (.newarray .int, 2) := by decide +kernel
theorem dM_init_811 : decode cM_init 811 = .ok (.putfield 299, 3) := by decide +kernel
theorem dM_init_814 : decode cM_init 814 = .ok (.aload_n 0, 1) := by decide +kernel
theorem dM_init_815 : decode cM_init 815 = .ok (.sipush 2000, 3) := by decide +kernel
theorem dM_init_818 : decode cM_init 818 = .ok (.newarray .int, 2) := by decide +kernel
theorem dM_init_820 : decode cM_init 820 = .ok (.putfield 302, 3) := by decide +kernel
theorem dM_init_823 : decode cM_init 823 = .ok (.aload_n 0, 1) := by decide +kernel
theorem dM_init_824 : decode cM_init 824 = .ok (.sipush 1200, 3) := by decide +kernel
theorem dM_init_827 : decode cM_init 827 = .ok (.newarray .int, 2) := by decide +kernel
theorem dM_init_829 : decode cM_init 829 = .ok (.putfield 305, 3) := by decide +kernel
theorem dM_init_832 : decode cM_init 832 = .ok (.aload_n 0, 1) := by decide +kernel
theorem dM_init_833 : decode cM_init 833 = .ok (.iconst 3, 1) := by decide +kernel
theorem dM_init_834 : decode cM_init 834 = .ok (.newarray .int, 2) := by decide +kernel
theorem dM_init_836 : decode cM_init 836 = .ok (.putfield 308, 3) := by decide +kernel
theorem dM_init_839 : decode cM_init 839 = .ok (.aload_n 0, 1) := by decide +kernel
theorem dM_init_840 : decode cM_init 840 = .ok (.sipush 1202, 3) := by decide +kernel
end
section
theorem dM_init_843 : decode cM_init 843 = .ok (.newarray .int, 2) := by decide +kernel
theorem dM_init_845 : decode cM_init 845 = .ok (.putfield 311, 3) := by decide +kernel
theorem dM_init_848 : decode cM_init 848 = .ok (.aload_n 0, 1) := by decide +kernel
theorem dM_init_849 : decode cM_init 849 = .ok (.iconst 3, 1) := by decide +kernel
theorem dM_init_850 : decode cM_init 850 = .ok (.newarray .int, 2) := by decide +kernel
theorem dM_init_852 : decode cM_init 852 = .ok (.putfield 314, 3) := by decide +kernel
theorem dM_init_855 : decode cM_init 855 = .ok (.aload_n 0, 1) := by decide +kernel
theorem dM_init_856 : decode cM_init 856 = .ok (.ldc_w 317, 3) := by decide +kernel
theorem dM_init_859 : decode cM_init 859 = .ok (.newarray .int, 2) := by decide +kernel
theorem dM_init_861 : decode cM_init 861 = .ok (.putfield 318, 3) := by decide +kernel
theorem dM_init_864 : decode cM_init 864 = .ok (.aload_n 0, 1) := by decide +kernel
theorem dM_init_865 : decode cM_init 865 = .ok (.sipush 1104, 3) := by decide +kernel
theorem dM_init_868 : decode cM_init 868 = .ok (.newarray .int, 2) := by decide +kernel
theorem dM_init_870 : decode cM_init 870 = .ok (.putfield 321, 3) := by decide +kernel
theorem dM_init_873 : decode cM_init 873 = .ok (.aload_n 0, 1) := by decide +kernel
theorem dM_init_874 : decode cM_init 874 = .ok (.sipush 200, 3) := by decide +kernel
theorem dM_init_877 : decode cM_init 877 = .ok (.newarray .int, 2) := by decide +kernel
theorem dM_init_879 : decode cM_init 879 = .ok (.putfield 324, 3) := by decide +kernel
theorem dM_init_882 : decode cM_init 882 = .ok (.aload_n 0, 1) := by decide +kernel
theorem dM_init_883 : decode cM_init 883 = .ok (.sipush 200, 3) := by decide +kernel
theorem dM_init_886 : decode cM_init 886 = .ok (.newarray .int, 2) := by decide +kernel
theorem dM_init_888 : decode cM_init 888 = .ok (.putfield 327, 3) := by decide +kernel
theorem dM_init_891 : decode cM_init 891 = .ok (.aload_n 0, 1) := by decide +kernel
theorem dM_init_892 : decode cM_init 892 = .ok (.sipush 200, 3) := by decide +kernel
theorem dM_init_895 : decode cM_init 895 = .ok (.newarray .int, 2) := by decide +kernel
theorem dM_init_897 : decode cM_init 897 = .ok (.putfield 330, 3) := by decide +kernel
theorem dM_init_900 : decode cM_init 900 = .ok (.aload_n 0, 1) := by decide +kernel
theorem dM_init_901 : decode cM_init 901 = .ok (.sipush 200, 3) := by decide +kernel
theorem dM_init_904 : decode cM_init 904 = .ok (.newarray .int, 2) := by decide +kernel
theorem dM_init_906 : decode cM_init 906 = .ok (.putfield 333, 3) := by decide +kernel
theorem dM_init_909 : decode cM_init 909 = .ok (.aload_n 0, 1) := by decide +kernel
theorem dM_init_910 : decode cM_init 910 = .ok (.sipush 200, 3) := by decide +kernel
theorem dM_init_913 : decode cM_init 913 = .ok (.newarray .int, 2) := by decide +kernel
theorem dM_init_915 : decode cM_init 915 = .ok (.putfield 336, 3) := by decide +kernel
theorem dM_init_918 : decode cM_init 918 = .ok (.aload_n 0, 1) := by decide +kernel
theorem dM_init_919 : decode cM_init 919 = .ok (.sipush 200, 3) := by decide +kernel
theorem dM_init_922 : decode cM_init 922 = .ok (.newarray .int, 2) := by decide +kernel
theorem dM_init_924 : decode cM_init 924 = .ok (.putfield 339, 3) := by decide +kernel
theorem dM_init_927 : decode cM_init 927 = .ok (.aload_n 0, 1) := by decide +kernel
theorem dM_init_928 : decode cM_init 928 = .ok (.sipush 200, 3) := by decide +kernel
theorem dM_init_931 : decode cM_init 931 = .ok (.newarray .int, 2) := by decide +kernel
theorem dM_init_933 : decode cM_init 933 = .ok (.putfield 342, 3) := by decide +kernel
theorem dM_init_936 : decode cM_init 936 = .ok (.aload_n 0, 1) := by decide +kernel
theorem dM_init_937 : decode cM_init 937 = .ok (.bipush 8, 2) := by decide +kernel
theorem dM_init_939 : decode cM_init 939 = .ok (.newarray .long, 2) := by decide +kernel
theorem dM_init_941 : decode cM_init 941 = .ok (.putfield 345, 3) := by decide +kernel
theorem dM_init_944 : decode cM_init 944 = .ok (.aload_n 0, 1) := by decide +kernel
theorem dM_init_945 : decode cM_init 945 = .ok (.bipush 8, 2) := by decide +kernel
theorem dM_init_947 : decode cM_init 947 = .ok (.newarray .int, 2) := by decide +kernel
theorem dM_init_949 : decode cM_init 949 = .ok (.putfield 348, 3) := by decide +kernel
theorem dM_init_952 : decode cM_init 952 = .ok (.aload_n 0, 1) := by decide +kernel
theorem dM_init_953 : decode cM_init 953 = .ok (.bipush 40, 2) := by decide +kernel
theorem dM_init_955 : decode cM_init 955 = .ok (.newarray .int, 2) := by decide +kernel
theorem dM_init_957 : decode cM_init 957 = .ok (.putfield 351, 3) := by decide +kernel
theorem dM_init_960 : decode cM_init 960 = .ok (.aload_n 0, 1) := by decide +kernel
theorem dM_init_961 : decode cM_init 961 = .ok (.bipush 40, 2) := by decide +kernel
theorem dM_init_963 : decode cM_init 963 = .ok (.newarray .int, 2) := by decide +kernel
theorem dM_init_965 : decode cM_init 965 = .ok (.putfield 354, 3) := by decide +kernel
theorem dM_init_968 : decode cM_init 968 = .ok (.aload_n 0, 1) := by decide +kernel
theorem dM_init_969 : decode cM_init 969 = .ok (.bipush 40, 2) := by decide +kernel
theorem dM_init_971 : decode cM_init 971 = .ok (.newarray .int, 2) := by decide +kernel
theorem dM_init_973 : decode cM_init 973 = .ok (.putfield 357, 3) := by decide +kernel
theorem dM_init_976 : decode cM_init 976 = .ok (.aload_n 0, 1) := by decide +kernel
theorem dM_init_977 : decode cM_init 977 = .ok (.bipush 40, 2) := by decide +kernel
theorem dM_init_979 : decode cM_init 979 = .ok (.newarray .int, 2) := by decide +kernel
theorem dM_init_981 : decode cM_init 981 = .ok (.putfield 360, 3) := by decide +kernel
theorem dM_init_984 : decode cM_init 984 = .ok (.aload_n 0, 1) := by decide +kernel
theorem dM_init_985 : decode cM_init 985 = .ok (.bipush 120, 2) := by decide +kernel
theorem dM_init_987 : decode cM_init 987 = .ok (.newarray .int, 2) := by decide +kernel
theorem dM_init_989 : decode cM_init 989 = .ok (.putfield 363, 3) := by decide +kernel
theorem dM_init_992 : decode cM_init 992 = .ok (.aload_n 0, 1) := by decide +kernel
theorem dM_init_993 : decode cM_init 993 = .ok (.bipush 120, 2) := by decide +kernel
theorem dM_init_995 : decode cM_init 995 = .ok (.newarray .int, 2) := by decide +kernel
theorem dM_init_997 : decode cM_init 997 = .ok (.putfield 366, 3) := by decide +kernel
theorem dM_init_1000 : decode cM_init 1000 = .ok (.aload_n 0, 1) := by decide +kernel
theorem dM_init_1001 : decode cM_init 1001 = .ok (.bipush 6, 2) := by decide +kernel
theorem dM_init_1003 : decode cM_init 1003 = .ok (.newarray .int, 2) := by decide +kernel
theorem dM_init_1005 : decode cM_init 1005 = .ok (.putfield 369, 3) := by decide +kernel
theorem dM_init_1008 : decode cM_init 1008 = .ok (.aload_n 0, 1) := by decide +kernel
theorem dM_init_1009 : decode cM_init 1009 = .ok (.iconst 3, 1) := by decide +kernel
theorem dM_init_1010 : decode cM_init 1010 = .ok (.newarray .int, 2) := by decide +kernel
theorem dM_init_1012 : decode cM_init 1012 = .ok (.putfield 372, 3) := by decide +kernel
theorem dM_init_1015 : decode cM_init 1015 = .ok (.aload_n 0, 1) := by decide +kernel
theorem dM_init_1016 : decode cM_init 1016 = .ok (.iconst 3, 1) := by decide +kernel
theorem dM_init_1017 : decode cM_init 1017 = .ok (.newarray .int, 2) := by decide +kernel
theorem dM_init_1019 : decode cM_init 1019 = .ok (.putfield 375, 3) := by decide +kernel
theorem dM_init_1022 : decode cM_init 1022 = .ok (.aload_n 0, 1) := by decide +kernel
theorem dM_init_1023 : decode cM_init 1023 = .ok (.bipush 6, 2) := by decide +kernel
theorem dM_init_1025 : decode cM_init 1025 = .ok (.newarray .int, 2) := by decide +kernel
theorem dM_init_1027 : decode cM_init 1027 = .ok (.putfield 378, 3) := by decide +kernel
theorem dM_init_1030 : decode cM_init 1030 = .ok (.aload_n 0, 1) := by decide +kernel
theorem dM_init_1031 : decode cM_init 1031 = .ok (.bipush 6, 2) := by decide +kernel
theorem dM_init_1033 : decode cM_init 1033 = .ok (.newarray .boolean, 2) := by decide +kernel
theorem dM_init_1035 : decode cM_init 1035 = .ok (.putfield 381, 3) := by decide +kernel
theorem dM_init_1038 : decode cM_init 1038 = .ok (.ldc_w 384, 3) := by decide +kernel
theorem dM_init_1041 : decode cM_init 1041 = .ok (.astore_n 1, 1) := by decide +kernel
theorem dM_init_1042 : decode cM_init 1042 = .ok (.lconst 0, 1) := by decide +kernel
theorem dM_init_1043 : decode cM_init 1043 = .ok (.lstore_n 2, 1) := by decide +kernel
theorem dM_init_1044 : decode cM_init 1044 = .ok (.iconst 0, 1) := by decide +kernel
theorem dM_init_1045 : decode cM_init 1045 = .ok (.istore 4, 2) := by decide +kernel
theorem dM_init_1047 : decode cM_init 1047 = .ok (.iconst 0, 1) := by decide +kernel
theorem dM_init_1048 : decode cM_init 1048 = .ok (.istore 5, 2) := by decide +kernel
theorem dM_init_1050 : decode cM_init 1050 = .ok (.iload 5, 2) := by decide +kernel
theorem dM_init_1052 : decode cM_init 1052 = .ok (.aload_n 1, 1) := by decide +kernel
theorem dM_init_1053 : decode cM_init 1053 = .ok (.invokevirtual 386, 3) := by decide +kernel
theorem dM_init_1056 : decode cM_init 1056 = .ok (.if_icmp .ge 53, 3) := by decide +kernel
theorem dM_init_1059 : decode cM_init 1059 = .ok (.aload_n 1, 1) := by decide +kernel
theorem dM_init_1060 : decode cM_init 1060 = .ok (.iload 5, 2) := by decide +kernel
theorem dM_init_1062 : decode cM_init 1062 = .ok (.invokevirtual 392, 3) := by decide +kernel
theorem dM_init_1065 : decode cM_init 1065 = .ok (.bipush 32, 2) := by decide +kernel
theorem dM_init_1067 : decode cM_init 1067 = .ok (.if_icmp .ne 19, 3) := by decide +kernel
theorem dM_init_1070 : decode cM_init 1070 = .ok (.aload_n 0, 1) := by decide +kernel
theorem dM_init_1071 : decode cM_init 1071 = .ok (.getfield 19, 3) := by decide +kernel
theorem dM_init_1074 : decode cM_init 1074 = .ok (.iload 4, 2) := by decide +kernel
theorem dM_init_1076 : decode cM_init 1076 = .ok (.lload_n 2, 1) := by decide +kernel
theorem dM_init_1077 : decode cM_init 1077 = .ok (.lastore, 1) := by decide +kernel
theorem dM_init_1078 : decode cM_init 1078 = .ok (.iinc 4 1, 3) := by decide +kernel
theorem dM_init_1081 : decode cM_init 1081 = .ok (.lconst 0, 1) := by decide +kernel
theorem dM_init_1082 : decode cM_init 1082 = .ok (.lstore_n 2, 1) := by decide +kernel
theorem dM_init_1083 : decode cM_init 1083 = .ok (.goto 20, 3) := by decide +kernel
theorem dM_init_1086 : decode cM_init 1086 = .ok (.ldc2_w 396, 3) := by decide +kernel
theorem dM_init_1089 : decode cM_init 1089 = .ok (.lload_n 2, 1) := by decide +kernel
theorem dM_init_1090 : decode cM_init 1090 = .ok (.lmul, 1) := by decide +kernel
theorem dM_init_1091 : decode cM_init 1091 = .ok (.aload_n 1, 1) := by decide +kernel
theorem dM_init_1092 : decode cM_init 1092 = .ok (.iload 5, 2) := by decide +kernel
theorem dM_init_1094 : decode cM_init 1094 = .ok (.invokevirtual 392, 3) := by decide +kernel
theorem dM_init_1097 : decode cM_init 1097 = .ok (.invokestatic 398, 3) := by decide +kernel
theorem dM_init_1100 : decode cM_init 1100 = .ok (.i2l, 1) := by decide +kernel
theorem dM_init_1101 : decode cM_init 1101 = .ok (.ladd, 1) := by decide +kernel
theorem dM_init_1102 : decode cM_init 1102 = .ok (.lstore_n 2, 1) := by decide +kernel
theorem dM_init_1103 : decode cM_init 1103 = .ok (.iinc 5 1, 3) := by decide +kernel
theorem dM_init_1106 : decode cM_init 1106 = .ok (.goto (-56), 3) := by decide +kernel
theorem dM_init_1109 : decode cM_init 1109 = .ok (.return_, 1) := by decide +kernel
end
section
theorem dM_isLetter_0 : decode cM_isLetter 0 = .ok (.iload_n 0, 1) := by decide +kernel
theorem dM_isLetter_1 : decode cM_isLetter 1 = .ok (.bipush 97, 2) := by decide +kernel
theorem dM_isLetter_3 : decode cM_isLetter 3 = .ok (.if_icmp .lt 13, 3) := by decide +kernel
theorem dM_isLetter_6 : decode cM_isLetter 6 = .ok (.iload_n 0, 1) := by decide +kernel
theorem dM_isLetter_7 : decode cM_isLetter 7 = .ok (.bipush 122, 2) := by decide +kernel
theorem dM_isLetter_9 : decode cM_isLetter 9 = .ok (.if_icmp .gt 7, 3) := by decide +kernel
theorem dM_isLetter_12 : decode cM_isLetter 12 = .ok (.iconst 1, 1) := by decide +kernel
theorem dM_isLetter_13 : decode cM_isLetter 13 = .ok (.goto 4, 3) := by decide +kernel
theorem dM_isLetter_16 : decode cM_isLetter 16 = .ok (.iconst 0, 1) := by decide +kernel
theorem dM_isLetter_17 : decode cM_isLetter 17 = .ok (.ireturn, 1) := by decide +kernel
theorem dM_isDigit_0 : decode cM_isDigit 0 = .ok (.iload_n 0, 1) := by decide +kernel
theorem dM_isDigit_1 : decode cM_isDigit 1 = .ok (.bipush 48, 2) := by decide +kernel
theorem dM_isDigit_3 : decode cM_isDigit 3 = .ok (.if_icmp .lt 13, 3) := by decide +kernel
theorem dM_isDigit_6 : decode cM_isDigit 6 = .ok (.iload_n 0, 1) := by decide +kernel
theorem dM_isDigit_7 : decode cM_isDigit 7 = .ok (.bipush 57, 2) := by decide +kernel
theorem dM_isDigit_9 : decode cM_isDigit 9 = .ok (.if_icmp .gt 7, 3) := by decide +kernel
theorem dM_isDigit_12 : decode cM_isDigit 12 = .ok (.iconst 1, 1) := by decide +kernel
theorem dM_isDigit_13 : decode cM_isDigit 13 = .ok (.goto 4, 3) := by decide +kernel
theorem dM_isDigit_16 : decode cM_isDigit 16 = .ok (.iconst 0, 1) := by decide +kernel
theorem dM_isDigit_17 : decode cM_isDigit 17 = .ok (.ireturn, 1) := by decide +kernel
theorem dM_code_0 : decode cM_code 0 = .ok (.iload_n 0, 1) := by decide +kernel
theorem dM_code_1 : decode cM_code 1 = .ok (.invokestatic 411, 3) := by decide +kernel
theorem dM_code_4 : decode cM_code 4 = .ok (.ifCond .eq 12, 3) := by decide +kernel
theorem dM_code_7 : decode cM_code 7 = .ok (.iload_n 0, 1) := by decide +kernel
theorem dM_code_8 : decode cM_code 8 = .ok (.bipush 97, 2) := by decide +kernel
theorem dM_code_10 : decode cM_code 10 = .ok (.isub, 1) := by decide +kernel
theorem dM_code_11 : decode cM_code 11 = .ok (.iconst 1, 1) := by decide +kernel
theorem dM_code_12 : decode cM_code 12 = .ok (.iadd, 1) := by decide +kernel
theorem dM_code_13 : decode cM_code 13 = .ok (.goto 32, 3) := by decide +kernel
theorem dM_code_16 : decode cM_code 16 = .ok (.iload_n 0, 1) := by decide +kernel
theorem dM_code_17 : decode cM_code 17 = .ok (.invokestatic 415, 3) := by decide +kernel
theorem dM_code_20 : decode cM_code 20 = .ok (.ifCond .eq 13, 3) := by decide +kernel
theorem dM_code_23 : decode cM_code 23 = .ok (.iload_n 0, 1) := by decide +kernel
theorem dM_code_24 : decode cM_code 24 = .ok (.bipush 48, 2) := by decide +kernel
theorem dM_code_26 : decode cM_code 26 = .ok (.isub, 1) := by decide +kernel
theorem dM_code_27 : decode cM_code 27 = .ok (.bipush 27, 2) := by decide +kernel
theorem dM_code_29 : decode cM_code 29 = .ok (.iadd, 1) := by decide +kernel
theorem dM_code_30 : decode cM_code 30 = .ok (.goto 15, 3) := by decide +kernel
theorem dM_code_33 : decode cM_code 33 = .ok (.iload_n 0, 1) := by decide +kernel
theorem dM_code_34 : decode cM_code 34 = .ok (.bipush 95, 2) := by decide +kernel
theorem dM_code_36 : decode cM_code 36 = .ok (.if_icmp .ne 8, 3) := by decide +kernel
theorem dM_code_39 : decode cM_code 39 = .ok (.bipush 37, 2) := by decide +kernel
theorem dM_code_41 : decode cM_code 41 = .ok (.goto 4, 3) := by decide +kernel
theorem dM_code_44 : decode cM_code 44 = .ok (.iconst 0, 1) := by decide +kernel
theorem dM_code_45 : decode cM_code 45 = .ok (.ireturn, 1) := by decide +kernel
theorem vM_code_411 : OkS RM 411 yM_isLetter cM_isLetter 1 (some .boolean) 1 := ⟨aw_s (tm 2156 (by decide +kernel) rfl) (tm 2157 (by decide +kernel) rfl) (tm 302 (by decide +kernel) rfl) (tm 2158 (by decide +kernel) rfl), by decide +kernel, by decide +kernel, by decide +kernel⟩
theorem vM_code_415 : OkS RM 415 yM_isDigit cM_isDigit 1 (some .boolean) 1 := ⟨aw_s (tm 2159 (by decide +kernel) rfl) (tm 2160 (by decide +kernel) rfl) (tm 302 (by decide +kernel) rfl) (tm 2161 (by decide +kernel) rfl), by decide +kernel, by decide +kernel, by decide +kernel⟩
theorem vM_init_398 : OkS RM 398 yM_code cM_code 1 (some .int) 1 := ⟨aw_s (tm 2153 (by decide +kernel) rfl) (tm 2154 (by decide +kernel) rfl) (tm 302 (by decide +kernel) rfl) (tm 2155 (by decide +kernel) rfl), by decide +kernel, by decide +kernel, by decide +kernel⟩
theorem vM_init_386 : OkV RM 386 yJ0_length_8abf5 cJ0_length_8abf5 1 (some .int) 0 := ⟨aw_v (tm 2150 (by decide +kernel) rfl) (tm 394 (by decide +kernel) rfl) (tm 395 (by decide +kernel) rfl) (tm 303 (by decide +kernel) rfl) (tm 396 (by decide +kernel) rfl), by decide +kernel, by decide +kernel, by decide +kernel⟩
theorem vM_init_392 : OkV RM 392 yJ0_charAt_5068e cJ0_charAt_5068e 2 (some .char) 1 := ⟨aw_v (tm 2151 (by decide +kernel) rfl) (tm 404 (by decide +kernel) rfl) (tm 405 (by decide +kernel) rfl) (tm 303 (by decide +kernel) rfl) (tm 406 (by decide +kernel) rfl), by decide +kernel, by decide +kernel, by decide +kernel⟩
theorem k_objL : Cond.methodLink RM 3 Lib.objectInit ∈ tb := tm 2147 (by decide +kernel) rfl
theorem k_objI : Cond.instanceMethod Lib.objectInit ∈ tb := tm 327 (by decide +kernel) rfl
theorem k_objC : Cond.code Lib.objectInit ⟨#[0xb1]⟩ 1 none ∈ tb := tm 328 (by decide +kernel) rfl
theorem k_38 : Cond.constantLong RM 396 38 ∈ tb := tm 2152 (by decide +kernel) rfl
theorem k_c317 : Cond.constant RM 317 220800 ∈ tb := tm 2148 (by decide +kernel) rfl
theorem k_c964 : Cond.constant RM 964 2000000000 ∈ tb := tm 3296 (by decide +kernel) rfl
theorem k_c898 : Cond.constant RM 898 1103515245 ∈ tb := tm 3325 (by decide +kernel) rfl
theorem k_c1041 : Cond.constant RM 1041 1000000 ∈ tb := tm 3350 (by decide +kernel) rfl
end
section
def mIsL (c : Int32) : Int32 := if c < 97 then 0 else if 122 < c then 0 else 1
def mIsD (c : Int32) : Int32 := if c < 48 then 0 else if 57 < c then 0 else 1
def mCode (c : Int32) : Int32 := if mIsL c = 0 then (if mIsD c = 0 then (if c = 95 then 37 else 0) else c - 48 + 27) else c - 97 + 1
set_option maxHeartbeats 4000000 in
theorem t_isLetter (l : Launch) (a1 : Int32) : KQ l yM_isLetter cM_isLetter 1 (some .boolean) 0 [.int a1] (fun r => r = mIsL a1) := by
  refine KQ.of (by decide) (Nat.le_of_ble_eq_true rfl) ?_
  intro p e s m below meth c ls C hr hlk hl
  have hx := C.1
  have hb := C.2.1
  have hl : lv_has ls 1 [(0, .int a1)] := hl
  refine lv_iload_n hx hb dM_isLetter_0 rfl (lv_at hl 0 rfl) ?_
  refine lv_bipush (v := 97) hx hb dM_isLetter_1 (by decide) ?_
  refine lv_icmp_lt (tgt := 16) hx hb dM_isLetter_3 (by decide) (fun c3 => ?_) (fun c3 => ?_)
  · refine lv_iconst (v := 0) hx hb dM_isLetter_16 (by decide) ?_
    exact KP.ret C hr hlk rfl (by unfold mIsL; rw [if_pos c3]) dM_isLetter_17
  · refine lv_iload_n hx hb dM_isLetter_6 rfl (lv_at hl 0 rfl) ?_
    refine lv_bipush (v := 122) hx hb dM_isLetter_7 (by decide) ?_
    refine lv_icmp_gt (tgt := 16) hx hb dM_isLetter_9 (by decide) (fun c9 => ?_) (fun c9 => ?_)
    · refine lv_iconst (v := 0) hx hb dM_isLetter_16 (by decide) ?_
      exact KP.ret C hr hlk rfl (by unfold mIsL; rw [if_neg c3, if_pos c9]) dM_isLetter_17
    · refine lv_iconst (v := 1) hx hb dM_isLetter_12 (by decide) ?_
      refine lv_goto (tgt := 17) hx hb dM_isLetter_13 (by decide) ?_
      exact KP.ret C hr hlk rfl (by unfold mIsL; rw [if_neg c3, if_neg c9]) dM_isLetter_17
set_option maxHeartbeats 4000000 in
theorem t_isDigit (l : Launch) (a1 : Int32) : KQ l yM_isDigit cM_isDigit 1 (some .boolean) 0 [.int a1] (fun r => r = mIsD a1) := by
  refine KQ.of (by decide) (Nat.le_of_ble_eq_true rfl) ?_
  intro p e s m below meth c ls C hr hlk hl
  have hx := C.1
  have hb := C.2.1
  have hl : lv_has ls 1 [(0, .int a1)] := hl
  refine lv_iload_n hx hb dM_isDigit_0 rfl (lv_at hl 0 rfl) ?_
  refine lv_bipush (v := 48) hx hb dM_isDigit_1 (by decide) ?_
  refine lv_icmp_lt (tgt := 16) hx hb dM_isDigit_3 (by decide) (fun c3 => ?_) (fun c3 => ?_)
  · refine lv_iconst (v := 0) hx hb dM_isDigit_16 (by decide) ?_
    exact KP.ret C hr hlk rfl (by unfold mIsD; rw [if_pos c3]) dM_isDigit_17
  · refine lv_iload_n hx hb dM_isDigit_6 rfl (lv_at hl 0 rfl) ?_
    refine lv_bipush (v := 57) hx hb dM_isDigit_7 (by decide) ?_
    refine lv_icmp_gt (tgt := 16) hx hb dM_isDigit_9 (by decide) (fun c9 => ?_) (fun c9 => ?_)
    · refine lv_iconst (v := 0) hx hb dM_isDigit_16 (by decide) ?_
      exact KP.ret C hr hlk rfl (by unfold mIsD; rw [if_neg c3, if_pos c9]) dM_isDigit_17
    · refine lv_iconst (v := 1) hx hb dM_isDigit_12 (by decide) ?_
      refine lv_goto (tgt := 17) hx hb dM_isDigit_13 (by decide) ?_
      exact KP.ret C hr hlk rfl (by unfold mIsD; rw [if_neg c3, if_neg c9]) dM_isDigit_17
set_option maxHeartbeats 4000000 in
theorem t_code (l : Launch) (a1 : Int32) : KQ l yM_code cM_code 1 (some .int) 1 [.int a1] (fun r => r = mCode a1) := by
  refine KQ.of (by decide) (Nat.le_of_ble_eq_true rfl) ?_
  intro p e s m below meth c ls C hr hlk hl
  have hx := C.1
  have hb := C.2.1
  have hl : lv_has ls 1 [(0, .int a1)] := hl
  refine lv_iload_n hx hb dM_code_0 rfl (lv_at hl 0 rfl) ?_
  refine KQ.callS (As := [.int (a1)]) C (t_isLetter l a1) vM_code_411 rfl ⟨by decide, by decide⟩ hl.1 rfl (Nat.le_of_ble_eq_true rfl) dM_code_1 ⟨by decide, by decide⟩ (fun r_1 hp => ?_)
  subst hp
  refine lv_if_eq (tgt := 16) hx hb dM_code_4 (by decide) (fun c4 => ?_) (fun c4 => ?_)
  · refine lv_iload_n hx hb dM_code_16 rfl (lv_at hl 0 rfl) ?_
    refine KQ.callS (As := [.int (a1)]) C (t_isDigit l a1) vM_code_415 rfl ⟨by decide, by decide⟩ hl.1 rfl (Nat.le_of_ble_eq_true rfl) dM_code_17 ⟨by decide, by decide⟩ (fun r_2 hp => ?_)
    subst hp
    refine lv_if_eq (tgt := 33) hx hb dM_code_20 (by decide) (fun c20 => ?_) (fun c20 => ?_)
    · refine lv_iload_n hx hb dM_code_33 rfl (lv_at hl 0 rfl) ?_
      refine lv_bipush (v := 95) hx hb dM_code_34 (by decide) ?_
      refine lv_icmp_ne (tgt := 44) hx hb dM_code_36 (by decide) (fun c36 => ?_) (fun c36 => ?_)
      · refine lv_iconst (v := 0) hx hb dM_code_44 (by decide) ?_
        exact KP.ret C hr hlk rfl (by unfold mCode; rw [if_pos c4, if_pos c20, if_neg c36]) dM_code_45
      · refine lv_bipush (v := 37) hx hb dM_code_39 (by decide) ?_
        refine lv_goto (tgt := 45) hx hb dM_code_41 (by decide) ?_
        exact KP.ret C hr hlk rfl (by unfold mCode; rw [if_pos c4, if_pos c20, if_pos c36]) dM_code_45
    · refine lv_iload_n hx hb dM_code_23 rfl (lv_at hl 0 rfl) ?_
      refine lv_bipush (v := 48) hx hb dM_code_24 (by decide) ?_
      refine lv_isub hx hb dM_code_26 ?_
      refine lv_bipush (v := 27) hx hb dM_code_27 (by decide) ?_
      refine lv_iadd hx hb dM_code_29 ?_
      refine lv_goto (tgt := 45) hx hb dM_code_30 (by decide) ?_
      exact KP.ret C hr hlk rfl (by unfold mCode; rw [if_pos c4, if_neg c20]) dM_code_45
  · refine lv_iload_n hx hb dM_code_7 rfl (lv_at hl 0 rfl) ?_
    refine lv_bipush (v := 97) hx hb dM_code_8 (by decide) ?_
    refine lv_isub hx hb dM_code_10 ?_
    refine lv_iconst (v := 1) hx hb dM_code_11 (by decide) ?_
    refine lv_iadd hx hb dM_code_12 ?_
    refine lv_goto (tgt := 45) hx hb dM_code_13 (by decide) ?_
    exact KP.ret C hr hlk rfl (by unfold mCode; rw [if_neg c4]) dM_code_45
/-- the words, char by char: the word at hand, how many there are, these -/
def wF : Nat → Int64 × Nat × (Nat → Int64)
  | 0 => (0, 0, fun _ => 0)
  | k + 1 => if sCh 4 k = 32 then (0, (wF k).2.1 + 1, vp_updL (wF k).2.2 (wF k).2.1 (wF k).1) else (38 * (wF k).1 + (mCode (sCh 4 k)).toInt64, (wF k).2.1, (wF k).2.2)
def wC : Nat → Nat
  | 0 => 0
  | k + 1 => if sCh 4 k = 32 then wC k + 1 else wC k
theorem wF_c : ∀ k, (wF k).2.1 = wC k := by
  intro k
  induction k with
  | zero => rfl
  | succ k ih =>
    show (if sCh 4 k = 32 then ((0 : Int64), (wF k).2.1 + 1, vp_updL (wF k).2.2 (wF k).2.1 (wF k).1) else (38 * (wF k).1 + (mCode (sCh 4 k)).toInt64, (wF k).2.1, (wF k).2.2)).2.1 = if sCh 4 k = 32 then wC k + 1 else wC k
    by_cases h : sCh 4 k = 32
    · rw [if_pos h, if_pos h, ih]
    · rw [if_neg h, if_neg h, ih]
abbrev sL4 : Nat := sLen.getD 4 0
theorem wC_all : (List.range (sLen.getD 4 0)).all (fun k => !(decide (sCh 4 k = 32)) || decide (wC k < 48)) = true := by decide +kernel
theorem wC_lt {k : Nat} (hk : k < sLen.getD 4 0) (h : sCh 4 k = 32) : wC k < 48 := by
  have h1 := List.all_eq_true.mp wC_all k (List.mem_range.mpr hk)
  simpa [h] using h1
theorem sL4_lt : sLen.getD 4 0 < 2 ^ 31 := by decide +kernel
def mI0 : Nat → Int32 := va_up (fun _ => 0) m_place (-1)
def mWd (k : Nat) : MS := (mI0, fun _ _ => 0, va_up (fun _ _ => 0) m_words (wF k).2.2)
def mNew : MS := mWd (sLen.getD 4 0)
theorem mWd_0 : mWd 0 = (mI0, fun _ _ => 0, fun _ _ => 0) := by
  unfold mWd
  congr 2
  funext j
  by_cases h : j = m_words
  · subst h; simp [va_up, wF]
  · simp [va_up, h]
section LdcW
variable {p : Program} {l : Launch} {e : Env} {R : Room} {s : State} {m : MethodId} {args : Array Value} {below : List Frame} {meth : Method} {c : Code} {H : Heap} {locs : List Loc} {cells slots : Nat} {Q : State → Prop}
variable {cc : ByteArray} {pc : Nat} {ls : Array Slot} {rest : List Value}
theorem ldcSw (hexec : p.tables.exec = Jvm.exec) (hb : c.code = cc) {own tx : String} {index q : Nat} (hown : s.vm.findClass own = some m.cls) (hZ : vk_R own index tx q s) (hdg : decode cc pc = .ok (.ldc_w index, 3))
    (k : W p l e R s m args below meth c H locs cells slots Q (F0 m (pc + 3) ls (.ref q :: rest))) : W p l e R s m args below meth c H locs cells slots Q (F0 m pc ls rest) := by
  intro T hT X
  obtain ⟨t, a1, b1⟩ := k T hT X
  refine ⟨t, ?_, b1⟩
  obtain ⟨kC, cf, i, a', hk, hcf, hcp, -, hr, hev'⟩ := Cond.stringRef_spec hown hZ.1
  have hq : q = a' := by
    have h1 := hZ.2.symm.trans hev'
    cases h1
    rfl
  subst hq
  obtain ⟨k', hk', he⟩ := X.warmed.alike.2.2 _ _ hk
  have hr' : k'.resolved[index]? = some (some (.string q)) := by
    rcases X.warmed.entry hk hk' index with h | ⟨h, -⟩
    · rw [h]; exact hr
    · rw [hr] at h; cases h
  jvm_step X.here [hexec, hb, hdg, ldc_w.wp_string (e := e) (s := T) (f := F0 m pc ls rest) X.here.top hk' (by rw [he]; exact hcf) hcp hr']
  exact a1
end LdcW
section InitLoop
variable {p : Program} {l : Launch} {e : Env} {s : State} {m : MethodId} {below : List Frame} {meth : Method} {c : Code} {g : GG} {A : Nat → Prop} {o : Nat} {ak sv ad : Nat → Nat}
set_option maxHeartbeats 4000000 in
set_option maxRecDepth 100000 in
theorem t_initW (C : Cx p s m c cM_init 6 RM #[.ref o] g) (hr : meth.sig.returnType = none) (hlk : meth.locks = false) (hE : sE ak sv A s s.heap) :
    ∀ (d k : Nat), k + d = sLen.getD 4 0 → ∀ (H : Heap) (locs : List Loc) (ls : Array Slot), Hx g (mW g o ad (mWd k)) A s.heap H locs → lv_has ls 6 [(5, .int (nI k)), (4, .int (nI (wC k))), (2, .long (wF k).1), (1, .ref (ak 4)), (0, .ref o)] →
      W p l e (rD 5 122 304858) s m #[.ref o] below meth c H locs 122 304858 (MQ below (va_Qv (fun u : (Nat → Nat) × MS => u.2 = mNew) (gB g (fun u : (Nat → Nat) × MS => mW g o u.1 u.2) A) A) #[.ref o] s 122 304858 A) (F0 m 1050 ls []) := by
  have hx := C.1.1
  have hb := C.1.2.1
  intro d
  induction d with
  | zero =>
    intro k hk H locs ls h hl
    have hk : k = sLen.getD 4 0 := hk
    subst hk
    refine lv_iload hx hb dM_init_1050 (lv_at hl 0 rfl) ?_
    refine lv_aload_n hx hb dM_init_1052 rfl (lv_at hl 3 rfl) ?_
    refine KP.callV (As := []) C.1 hE h.2.2.1 h.2.2.2 (by decide) (j_length l (i := 4) (by decide)) rfl vM_init_386 ⟨by decide, by decide⟩ hl.1 rfl (Nat.le_of_ble_eq_true rfl) dM_init_1053 ⟨by decide, by decide⟩ (fun v hv => ?_)
    subst hv
    refine lv_icmp_ge (tgt := 1109) hx hb dM_init_1056 (by decide) (fun _ => ?_) (fun q => absurd (Int32.le_refl _) q)
    exact KV.ret C hr hlk (ad, mNew) h rfl (by decide) (by decide) dM_init_1109
  | succ d ih =>
    intro k hk H locs ls h hl
    have hlt : k < sLen.getD 4 0 := by omega
    have hL := sL4_lt
    refine lv_iload hx hb dM_init_1050 (lv_at hl 0 rfl) ?_
    refine lv_aload_n hx hb dM_init_1052 rfl (lv_at hl 3 rfl) ?_
    refine KP.callV (As := []) C.1 hE h.2.2.1 h.2.2.2 (by decide) (j_length l (i := 4) (by decide)) rfl vM_init_386 ⟨by decide, by decide⟩ hl.1 rfl (Nat.le_of_ble_eq_true rfl) dM_init_1053 ⟨by decide, by decide⟩ (fun v hv => ?_)
    subst hv
    refine lv_icmp_ge (tgt := 1109) hx hb dM_init_1056 (by decide) (fun q => absurd q (nI_ge hlt hL)) (fun _ => ?_)
    refine lv_aload_n hx hb dM_init_1059 rfl (lv_at hl 3 rfl) ?_
    refine lv_iload hx hb dM_init_1060 (lv_at hl 0 rfl) ?_
    refine KP.callV (As := [.int (nI k)]) C.1 hE h.2.2.1 h.2.2.2 (by decide) (j_charAt l (i := 4) (by decide) hlt) rfl vM_init_392 ⟨by decide, by decide⟩ hl.1 rfl (Nat.le_of_ble_eq_true rfl) dM_init_1062 ⟨by decide, by decide⟩ (fun v hv => ?_)
    subst hv
    refine lv_bipush (v := 32) hx hb dM_init_1065 (by decide) ?_
    refine lv_icmp_ne (tgt := 1086) hx hb dM_init_1067 (by decide) (fun c1 => ?_) (fun c1 => ?_)
    · refine lv_ldc2 (v := 38) hx hb C.1.2.2.2.1 (C.1.2.2.2.2 _ k_38) dM_init_1086 ?_
      refine lv_lload_n hx hb dM_init_1089 rfl (lv_at hl 2 rfl) ?_
      refine lv_lmul hx hb dM_init_1090 ?_
      refine lv_aload_n hx hb dM_init_1091 rfl (lv_at hl 3 rfl) ?_
      refine lv_iload hx hb dM_init_1092 (lv_at hl 0 rfl) ?_
      refine KP.callV (As := [.int (nI k)]) C.1 hE h.2.2.1 h.2.2.2 (by decide) (j_charAt l (i := 4) (by decide) hlt) rfl vM_init_392 ⟨by decide, by decide⟩ hl.1 rfl (Nat.le_of_ble_eq_true rfl) dM_init_1094 ⟨by decide, by decide⟩ (fun v hv => ?_)
      subst hv
      refine KQ.callS (As := [.int (sCh 4 k)]) C.1 (t_code l (sCh 4 k)) vM_init_398 rfl ⟨by decide, by decide⟩ hl.1 rfl (Nat.le_of_ble_eq_true rfl) dM_init_1097 ⟨by decide, by decide⟩ (fun v hv => ?_)
      subst hv
      refine lv_i2l hx hb dM_init_1100 rfl ?_
      refine lv_ladd hx hb dM_init_1101 ?_
      refine lv_lstore_n (lv' := [(2, .long (38 * (wF k).1 + (mCode (sCh 4 k)).toInt64)), (5, .int (nI k)), (4, .int (nI (wC k))), (1, .ref (ak 4)), (0, .ref o)]) hx hb dM_init_1102 rfl hl (by decide) rfl (fun ls hl => ?_)
      refine lv_iinc (v := nI (k + 1)) (lv' := [(5, .int (nI (k + 1))), (2, .long (38 * (wF k).1 + (mCode (sCh 4 k)).toInt64)), (4, .int (nI (wC k))), (1, .ref (ak 4)), (0, .ref o)]) hx hb dM_init_1103 hl (k := 1) rfl (nI_1 k) (by decide) rfl (fun ls hl => ?_)
      refine lv_goto (tgt := 1050) hx hb dM_init_1106 (by decide) ?_
      have e1 : wF (k + 1) = (38 * (wF k).1 + (mCode (sCh 4 k)).toInt64, (wF k).2.1, (wF k).2.2) := if_neg c1
      have e2 : wC (k + 1) = wC k := if_neg c1
      have e3 : mWd (k + 1) = mWd k := by unfold mWd; rw [e1]
      refine ih (k + 1) (by omega) H locs ls (by rw [e3]; exact h) ?_
      rw [e1, e2]
      exact lv_sub hl [0, 2, 1, 3, 4] rfl
    · refine lv_aload_n hx hb dM_init_1070 rfl (lv_at hl 4 rfl) ?_
      refine mga C h m_words (by decide) (by decide) rfl dM_init_1071 ?_
      refine lv_iload hx hb dM_init_1074 (lv_at hl 1 rfl) ?_
      refine lv_lload_n hx hb dM_init_1076 rfl (lv_at hl 2 rfl) ?_
      have hw := wC_lt hlt c1
      refine msj C h m_words (by decide) rfl (vp_in_nI hw (by decide)) dM_init_1077 (fun H locs h => ?_)
      refine lv_iinc (v := nI (wC k + 1)) (lv' := [(4, .int (nI (wC k + 1))), (5, .int (nI k)), (2, .long (wF k).1), (1, .ref (ak 4)), (0, .ref o)]) hx hb dM_init_1078 hl (k := 1) rfl (nI_1 _) (by decide) rfl (fun ls hl => ?_)
      refine lv_lconst (v := 0) hx hb dM_init_1081 (by decide) ?_
      refine lv_lstore_n (lv' := [(2, .long 0), (4, .int (nI (wC k + 1))), (5, .int (nI k)), (1, .ref (ak 4)), (0, .ref o)]) hx hb dM_init_1082 rfl hl (by decide) rfl (fun ls hl => ?_)
      refine lv_goto (tgt := 1103) hx hb dM_init_1083 (by decide) ?_
      refine lv_iinc (v := nI (k + 1)) (lv' := [(5, .int (nI (k + 1))), (2, .long 0), (4, .int (nI (wC k + 1))), (1, .ref (ak 4)), (0, .ref o)]) hx hb dM_init_1103 hl (k := 2) rfl (nI_1 k) (by decide) rfl (fun ls hl => ?_)
      refine lv_goto (tgt := 1050) hx hb dM_init_1106 (by decide) ?_
      have e1 : wF (k + 1) = (0, (wF k).2.1 + 1, vp_updL (wF k).2.2 (wF k).2.1 (wF k).1) := if_pos c1
      have e2 : wC (k + 1) = wC k + 1 := if_pos c1
      have e3 : msetj (mWd k) m_words (nI (wC k)).toNatClampNeg (wF k).1 = mWd (k + 1) := by
        rw [nI_clamp (by omega)]
        unfold mWd msetj
        rw [e1, wF_c]
        congr 2
        funext j
        by_cases hj : j = m_words
        · subst hj; simp [va_up]
        · simp [va_up, hj]
      rw [e3] at h
      refine ih (k + 1) (by omega) H locs ls h ?_
      rw [e1, e2]
      exact lv_sub hl [0, 2, 1, 3, 4] rfl
set_option maxHeartbeats 4000000 in
set_option maxRecDepth 100000 in
theorem t_initL {H : Heap} {locs : List Loc} {ls : Array Slot} (C : Cx p s m c cM_init 6 RM #[.ref o] g) (hr : meth.sig.returnType = none) (hlk : meth.locks = false) (hE : sE ak sv A s s.heap) (h : Hx g (mW g o ad (mI0, fun _ _ => 0, fun _ _ => 0)) A s.heap H locs) (hl : lv_has ls 6 [(0, .ref o)]) :
      W p l e (rD 5 122 304858) s m #[.ref o] below meth c H locs 122 304858 (MQ below (va_Qv (fun u : (Nat → Nat) × MS => u.2 = mNew) (gB g (fun u : (Nat → Nat) × MS => mW g o u.1 u.2) A) A) #[.ref o] s 122 304858 A) (F0 m 1038 ls []) := by
  have hx := C.1.1
  have hb := C.1.2.1
  refine ldcSw hx hb C.1.2.2.2.1 (hE.2.2.2.1 4 (by decide)) dM_init_1038 ?_
  refine lv_astore_n (lv' := [(1, .ref (ak 4)), (0, .ref o)]) hx hb dM_init_1041 rfl hl (by decide) rfl (fun ls hl => ?_)
  refine lv_lconst (v := 0) hx hb dM_init_1042 (by decide) ?_
  refine lv_lstore_n (lv' := [(2, .long 0), (1, .ref (ak 4)), (0, .ref o)]) hx hb dM_init_1043 rfl hl (by decide) rfl (fun ls hl => ?_)
  refine lv_iconst (v := 0) hx hb dM_init_1044 (by decide) ?_
  refine lv_istore (lv' := [(4, .int 0), (2, .long 0), (1, .ref (ak 4)), (0, .ref o)]) hx hb dM_init_1045 hl (by decide) rfl (fun ls hl => ?_)
  refine lv_iconst (v := 0) hx hb dM_init_1047 (by decide) ?_
  refine lv_istore (lv' := [(5, .int 0), (4, .int 0), (2, .long 0), (1, .ref (ak 4)), (0, .ref o)]) hx hb dM_init_1048 hl (by decide) rfl (fun ls hl => ?_)
  rw [← mWd_0] at h
  exact t_initW C hr hlk hE (sLen.getD 4 0) 0 (Nat.zero_add _) H locs ls h hl
end InitLoop

set_option maxHeartbeats 40000000 in
set_option maxRecDepth 100000 in
/-- the constructor: all arrays there, the words learnt -/
theorem t_init {ak sv : Nat → Nat} (l : Launch) (g : GG) (o : Nat) : KVx ak sv l yM_init cM_init 6 (rD 5 122 304858) g (pW g o (fun _ => 0) (fun _ => 0) 0) (fun u : (Nat → Nat) × MS => mW g o u.1 u.2) [.ref o] (fun u => u.2 = mNew) := by
  refine KVx.of (by decide) (Nat.le_of_ble_eq_true rfl) ?_
  intro p e s m below meth c A ls C hr hlk hnm h hE hl
  have hx := C.1.1
  have hb := C.1.2.1
  have hl : lv_has ls 6 [(0, .ref o)] := hl
  refine lv_aload_n hx hb dM_init_0 rfl (lv_at hl 0 rfl) ?_
  refine W.objInit hx hb C.1.2.2.2.1 (C.1.2.2.2.2 _ k_objL) (C.1.2.2.2.2 _ k_objI) (C.1.2.2.2.2 _ k_objC) rfl (by rw [C.1.2.2.1]; exact hl.1) rfl dM_init_1 (Nat.le_of_ble_eq_true rfl) (Nat.le_of_ble_eq_true rfl) ?_
  refine W.eq (g2 := F0 m 4 ls []) rfl ?_
  refine lv_aload_n hx hb dM_init_4 rfl (lv_at hl 0 rfl) ?_
  refine lv_sipush (v := 5000) hx hb dM_init_5 (by decide) ?_
  refine newA_b C h (N := 5000) (by decide) (by decide) (by decide) (by decide) (by decide) dM_init_8 (fun q0 H h => ?_)
  refine W.widen (k := 1) (n := 5000) (by decide) (by decide) ?_
  refine ipF C hnm 0 rfl rfl h rfl rfl rfl rfl dM_init_10 (fun H locs h => ?_)
  refine lv_aload_n hx hb dM_init_13 rfl (lv_at hl 0 rfl) ?_
  refine lv_sipush (v := 5000) hx hb dM_init_14 (by decide) ?_
  refine newA_b C h (N := 5000) (by decide) (by decide) (by decide) (by decide) (by decide) dM_init_17 (fun q1 H h => ?_)
  refine W.widen (k := 2) (n := 10000) (by decide) (by decide) ?_
  refine ipF C hnm 1 rfl rfl h rfl rfl rfl rfl dM_init_19 (fun H locs h => ?_)
  refine lv_aload_n hx hb dM_init_22 rfl (lv_at hl 0 rfl) ?_
  refine lv_sipush (v := 5000) hx hb dM_init_23 (by decide) ?_
  refine newA_b C h (N := 5000) (by decide) (by decide) (by decide) (by decide) (by decide) dM_init_26 (fun q2 H h => ?_)
  refine W.widen (k := 3) (n := 15000) (by decide) (by decide) ?_
  refine ipF C hnm 2 rfl rfl h rfl rfl rfl rfl dM_init_28 (fun H locs h => ?_)
  refine lv_aload_n hx hb dM_init_31 rfl (lv_at hl 0 rfl) ?_
  refine lv_bipush (v := 48) hx hb dM_init_32 (by decide) ?_
  refine newA_j C h (N := 48) (by decide) (by decide) (by decide) (by decide) (by decide) dM_init_34 (fun q3 H h => ?_)
  refine W.widen (k := 4) (n := 15048) (by decide) (by decide) ?_
  refine ipF C hnm 7 rfl rfl h rfl rfl rfl rfl dM_init_36 (fun H locs h => ?_)
  refine lv_aload_n hx hb dM_init_39 rfl (lv_at hl 0 rfl) ?_
  refine lv_sipush (v := 1202) hx hb dM_init_40 (by decide) ?_
  refine newA_i C h (N := 1202) (by decide) (by decide) (by decide) (by decide) (by decide) dM_init_43 (fun q4 H h => ?_)
  refine W.widen (k := 5) (n := 16250) (by decide) (by decide) ?_
  refine ipF C hnm 8 rfl rfl h rfl rfl rfl rfl dM_init_45 (fun H locs h => ?_)
  refine lv_aload_n hx hb dM_init_48 rfl (lv_at hl 0 rfl) ?_
  refine lv_sipush (v := 1202) hx hb dM_init_49 (by decide) ?_
  refine newA_i C h (N := 1202) (by decide) (by decide) (by decide) (by decide) (by decide) dM_init_52 (fun q5 H h => ?_)
  refine W.widen (k := 6) (n := 17452) (by decide) (by decide) ?_
  refine ipF C hnm 9 rfl rfl h rfl rfl rfl rfl dM_init_54 (fun H locs h => ?_)
  refine lv_aload_n hx hb dM_init_57 rfl (lv_at hl 0 rfl) ?_
  refine lv_sipush (v := 1202) hx hb dM_init_58 (by decide) ?_
  refine newA_j C h (N := 1202) (by decide) (by decide) (by decide) (by decide) (by decide) dM_init_61 (fun q6 H h => ?_)
  refine W.widen (k := 7) (n := 18654) (by decide) (by decide) ?_
  refine ipF C hnm 10 rfl rfl h rfl rfl rfl rfl dM_init_63 (fun H locs h => ?_)
  refine lv_aload_n hx hb dM_init_66 rfl (lv_at hl 0 rfl) ?_
  refine lv_bipush (v := 20) hx hb dM_init_67 (by decide) ?_
  refine newA_j C h (N := 20) (by decide) (by decide) (by decide) (by decide) (by decide) dM_init_69 (fun q7 H h => ?_)
  refine W.widen (k := 8) (n := 18674) (by decide) (by decide) ?_
  refine ipF C hnm 20 rfl rfl h rfl rfl rfl rfl dM_init_71 (fun H locs h => ?_)
  refine lv_aload_n hx hb dM_init_74 rfl (lv_at hl 0 rfl) ?_
  refine lv_bipush (v := 10) hx hb dM_init_75 (by decide) ?_
  refine newA_j C h (N := 10) (by decide) (by decide) (by decide) (by decide) (by decide) dM_init_77 (fun q8 H h => ?_)
  refine W.widen (k := 9) (n := 18684) (by decide) (by decide) ?_
  refine ipF C hnm 21 rfl rfl h rfl rfl rfl rfl dM_init_79 (fun H locs h => ?_)
  refine lv_aload_n hx hb dM_init_82 rfl (lv_at hl 0 rfl) ?_
  refine lv_bipush (v := 6) hx hb dM_init_83 (by decide) ?_
  refine newA_j C h (N := 6) (by decide) (by decide) (by decide) (by decide) (by decide) dM_init_85 (fun q9 H h => ?_)
  refine W.widen (k := 10) (n := 18690) (by decide) (by decide) ?_
  refine ipF C hnm 22 rfl rfl h rfl rfl rfl rfl dM_init_87 (fun H locs h => ?_)
  refine lv_aload_n hx hb dM_init_90 rfl (lv_at hl 0 rfl) ?_
  refine lv_bipush (v := 20) hx hb dM_init_91 (by decide) ?_
  refine newA_i C h (N := 20) (by decide) (by decide) (by decide) (by decide) (by decide) dM_init_93 (fun q10 H h => ?_)
  refine W.widen (k := 11) (n := 18710) (by decide) (by decide) ?_
  refine ipF C hnm 23 rfl rfl h rfl rfl rfl rfl dM_init_95 (fun H locs h => ?_)
  refine lv_aload_n hx hb dM_init_98 rfl (lv_at hl 0 rfl) ?_
  refine lv_bipush (v := 20) hx hb dM_init_99 (by decide) ?_
  refine newA_i C h (N := 20) (by decide) (by decide) (by decide) (by decide) (by decide) dM_init_101 (fun q11 H h => ?_)
  refine W.widen (k := 12) (n := 18730) (by decide) (by decide) ?_
  refine ipF C hnm 24 rfl rfl h rfl rfl rfl rfl dM_init_103 (fun H locs h => ?_)
  refine lv_aload_n hx hb dM_init_106 rfl (lv_at hl 0 rfl) ?_
  refine lv_bipush (v := 60) hx hb dM_init_107 (by decide) ?_
  refine newA_i C h (N := 60) (by decide) (by decide) (by decide) (by decide) (by decide) dM_init_109 (fun q12 H h => ?_)
  refine W.widen (k := 13) (n := 18790) (by decide) (by decide) ?_
  refine ipF C hnm 25 rfl rfl h rfl rfl rfl rfl dM_init_111 (fun H locs h => ?_)
  refine lv_aload_n hx hb dM_init_114 rfl (lv_at hl 0 rfl) ?_
  refine lv_bipush (v := 10) hx hb dM_init_115 (by decide) ?_
  refine newA_j C h (N := 10) (by decide) (by decide) (by decide) (by decide) (by decide) dM_init_117 (fun q13 H h => ?_)
  refine W.widen (k := 14) (n := 18800) (by decide) (by decide) ?_
  refine ipF C hnm 26 rfl rfl h rfl rfl rfl rfl dM_init_119 (fun H locs h => ?_)
  refine lv_aload_n hx hb dM_init_122 rfl (lv_at hl 0 rfl) ?_
  refine lv_bipush (v := 10) hx hb dM_init_123 (by decide) ?_
  refine newA_j C h (N := 10) (by decide) (by decide) (by decide) (by decide) (by decide) dM_init_125 (fun q14 H h => ?_)
  refine W.widen (k := 15) (n := 18810) (by decide) (by decide) ?_
  refine ipF C hnm 27 rfl rfl h rfl rfl rfl rfl dM_init_127 (fun H locs h => ?_)
  refine lv_aload_n hx hb dM_init_130 rfl (lv_at hl 0 rfl) ?_
  refine lv_bipush (v := 10) hx hb dM_init_131 (by decide) ?_
  refine newA_i C h (N := 10) (by decide) (by decide) (by decide) (by decide) (by decide) dM_init_133 (fun q15 H h => ?_)
  refine W.widen (k := 16) (n := 18820) (by decide) (by decide) ?_
  refine ipF C hnm 28 rfl rfl h rfl rfl rfl rfl dM_init_135 (fun H locs h => ?_)
  refine lv_aload_n hx hb dM_init_138 rfl (lv_at hl 0 rfl) ?_
  refine lv_bipush (v := 10) hx hb dM_init_139 (by decide) ?_
  refine newA_i C h (N := 10) (by decide) (by decide) (by decide) (by decide) (by decide) dM_init_141 (fun q16 H h => ?_)
  refine W.widen (k := 17) (n := 18830) (by decide) (by decide) ?_
  refine ipF C hnm 29 rfl rfl h rfl rfl rfl rfl dM_init_143 (fun H locs h => ?_)
  refine lv_aload_n hx hb dM_init_146 rfl (lv_at hl 0 rfl) ?_
  refine lv_bipush (v := 10) hx hb dM_init_147 (by decide) ?_
  refine newA_i C h (N := 10) (by decide) (by decide) (by decide) (by decide) (by decide) dM_init_149 (fun q17 H h => ?_)
  refine W.widen (k := 18) (n := 18840) (by decide) (by decide) ?_
  refine ipF C hnm 30 rfl rfl h rfl rfl rfl rfl dM_init_151 (fun H locs h => ?_)
  refine lv_aload_n hx hb dM_init_154 rfl (lv_at hl 0 rfl) ?_
  refine lv_bipush (v := 10) hx hb dM_init_155 (by decide) ?_
  refine newA_i C h (N := 10) (by decide) (by decide) (by decide) (by decide) (by decide) dM_init_157 (fun q18 H h => ?_)
  refine W.widen (k := 19) (n := 18850) (by decide) (by decide) ?_
  refine ipF C hnm 31 rfl rfl h rfl rfl rfl rfl dM_init_159 (fun H locs h => ?_)
  refine lv_aload_n hx hb dM_init_162 rfl (lv_at hl 0 rfl) ?_
  refine lv_bipush (v := 10) hx hb dM_init_163 (by decide) ?_
  refine newA_i C h (N := 10) (by decide) (by decide) (by decide) (by decide) (by decide) dM_init_165 (fun q19 H h => ?_)
  refine W.widen (k := 20) (n := 18860) (by decide) (by decide) ?_
  refine ipF C hnm 32 rfl rfl h rfl rfl rfl rfl dM_init_167 (fun H locs h => ?_)
  refine lv_aload_n hx hb dM_init_170 rfl (lv_at hl 0 rfl) ?_
  refine lv_bipush (v := 10) hx hb dM_init_171 (by decide) ?_
  refine newA_i C h (N := 10) (by decide) (by decide) (by decide) (by decide) (by decide) dM_init_173 (fun q20 H h => ?_)
  refine W.widen (k := 21) (n := 18870) (by decide) (by decide) ?_
  refine ipF C hnm 33 rfl rfl h rfl rfl rfl rfl dM_init_175 (fun H locs h => ?_)
  refine lv_aload_n hx hb dM_init_178 rfl (lv_at hl 0 rfl) ?_
  refine lv_bipush (v := 10) hx hb dM_init_179 (by decide) ?_
  refine newA_z C h (N := 10) (by decide) (by decide) (by decide) (by decide) (by decide) dM_init_181 (fun q21 H h => ?_)
  refine W.widen (k := 22) (n := 18880) (by decide) (by decide) ?_
  refine ipF C hnm 34 rfl rfl h rfl rfl rfl rfl dM_init_183 (fun H locs h => ?_)
  refine lv_aload_n hx hb dM_init_186 rfl (lv_at hl 0 rfl) ?_
  refine lv_bipush (v := 6) hx hb dM_init_187 (by decide) ?_
  refine newA_i C h (N := 6) (by decide) (by decide) (by decide) (by decide) (by decide) dM_init_189 (fun q22 H h => ?_)
  refine W.widen (k := 23) (n := 18886) (by decide) (by decide) ?_
  refine ipF C hnm 35 rfl rfl h rfl rfl rfl rfl dM_init_191 (fun H locs h => ?_)
  refine lv_aload_n hx hb dM_init_194 rfl (lv_at hl 0 rfl) ?_
  refine lv_bipush (v := 6) hx hb dM_init_195 (by decide) ?_
  refine newA_i C h (N := 6) (by decide) (by decide) (by decide) (by decide) (by decide) dM_init_197 (fun q23 H h => ?_)
  refine W.widen (k := 24) (n := 18892) (by decide) (by decide) ?_
  refine ipF C hnm 36 rfl rfl h rfl rfl rfl rfl dM_init_199 (fun H locs h => ?_)
  refine lv_aload_n hx hb dM_init_202 rfl (lv_at hl 0 rfl) ?_
  refine lv_bipush (v := 6) hx hb dM_init_203 (by decide) ?_
  refine newA_i C h (N := 6) (by decide) (by decide) (by decide) (by decide) (by decide) dM_init_205 (fun q24 H h => ?_)
  refine W.widen (k := 25) (n := 18898) (by decide) (by decide) ?_
  refine ipF C hnm 37 rfl rfl h rfl rfl rfl rfl dM_init_207 (fun H locs h => ?_)
  refine lv_aload_n hx hb dM_init_210 rfl (lv_at hl 0 rfl) ?_
  refine lv_bipush (v := 6) hx hb dM_init_211 (by decide) ?_
  refine newA_i C h (N := 6) (by decide) (by decide) (by decide) (by decide) (by decide) dM_init_213 (fun q25 H h => ?_)
  refine W.widen (k := 26) (n := 18904) (by decide) (by decide) ?_
  refine ipF C hnm 38 rfl rfl h rfl rfl rfl rfl dM_init_215 (fun H locs h => ?_)
  refine lv_aload_n hx hb dM_init_218 rfl (lv_at hl 0 rfl) ?_
  refine lv_bipush (v := 6) hx hb dM_init_219 (by decide) ?_
  refine newA_i C h (N := 6) (by decide) (by decide) (by decide) (by decide) (by decide) dM_init_221 (fun q26 H h => ?_)
  refine W.widen (k := 27) (n := 18910) (by decide) (by decide) ?_
  refine ipF C hnm 39 rfl rfl h rfl rfl rfl rfl dM_init_223 (fun H locs h => ?_)
  refine lv_aload_n hx hb dM_init_226 rfl (lv_at hl 0 rfl) ?_
  refine lv_bipush (v := 6) hx hb dM_init_227 (by decide) ?_
  refine newA_i C h (N := 6) (by decide) (by decide) (by decide) (by decide) (by decide) dM_init_229 (fun q27 H h => ?_)
  refine W.widen (k := 28) (n := 18916) (by decide) (by decide) ?_
  refine ipF C hnm 40 rfl rfl h rfl rfl rfl rfl dM_init_231 (fun H locs h => ?_)
  refine lv_aload_n hx hb dM_init_234 rfl (lv_at hl 0 rfl) ?_
  refine lv_bipush (v := 6) hx hb dM_init_235 (by decide) ?_
  refine newA_i C h (N := 6) (by decide) (by decide) (by decide) (by decide) (by decide) dM_init_237 (fun q28 H h => ?_)
  refine W.widen (k := 29) (n := 18922) (by decide) (by decide) ?_
  refine ipF C hnm 41 rfl rfl h rfl rfl rfl rfl dM_init_239 (fun H locs h => ?_)
  refine lv_aload_n hx hb dM_init_242 rfl (lv_at hl 0 rfl) ?_
  refine lv_bipush (v := 6) hx hb dM_init_243 (by decide) ?_
  refine newA_i C h (N := 6) (by decide) (by decide) (by decide) (by decide) (by decide) dM_init_245 (fun q29 H h => ?_)
  refine W.widen (k := 30) (n := 18928) (by decide) (by decide) ?_
  refine ipF C hnm 42 rfl rfl h rfl rfl rfl rfl dM_init_247 (fun H locs h => ?_)
  refine lv_aload_n hx hb dM_init_250 rfl (lv_at hl 0 rfl) ?_
  refine lv_bipush (v := 6) hx hb dM_init_251 (by decide) ?_
  refine newA_i C h (N := 6) (by decide) (by decide) (by decide) (by decide) (by decide) dM_init_253 (fun q30 H h => ?_)
  refine W.widen (k := 31) (n := 18934) (by decide) (by decide) ?_
  refine ipF C hnm 43 rfl rfl h rfl rfl rfl rfl dM_init_255 (fun H locs h => ?_)
  refine lv_aload_n hx hb dM_init_258 rfl (lv_at hl 0 rfl) ?_
  refine lv_bipush (v := 6) hx hb dM_init_259 (by decide) ?_
  refine newA_i C h (N := 6) (by decide) (by decide) (by decide) (by decide) (by decide) dM_init_261 (fun q31 H h => ?_)
  refine W.widen (k := 32) (n := 18940) (by decide) (by decide) ?_
  refine ipF C hnm 44 rfl rfl h rfl rfl rfl rfl dM_init_263 (fun H locs h => ?_)
  refine lv_aload_n hx hb dM_init_266 rfl (lv_at hl 0 rfl) ?_
  refine lv_bipush (v := 48) hx hb dM_init_267 (by decide) ?_
  refine newA_j C h (N := 48) (by decide) (by decide) (by decide) (by decide) (by decide) dM_init_269 (fun q32 H h => ?_)
  refine W.widen (k := 33) (n := 18988) (by decide) (by decide) ?_
  refine ipF C hnm 45 rfl rfl h rfl rfl rfl rfl dM_init_271 (fun H locs h => ?_)
  refine lv_aload_n hx hb dM_init_274 rfl (lv_at hl 0 rfl) ?_
  refine lv_bipush (v := 18) hx hb dM_init_275 (by decide) ?_
  refine newA_j C h (N := 18) (by decide) (by decide) (by decide) (by decide) (by decide) dM_init_277 (fun q33 H h => ?_)
  refine W.widen (k := 34) (n := 19006) (by decide) (by decide) ?_
  refine ipF C hnm 46 rfl rfl h rfl rfl rfl rfl dM_init_279 (fun H locs h => ?_)
  refine lv_aload_n hx hb dM_init_282 rfl (lv_at hl 0 rfl) ?_
  refine lv_bipush (v := 72) hx hb dM_init_283 (by decide) ?_
  refine newA_j C h (N := 72) (by decide) (by decide) (by decide) (by decide) (by decide) dM_init_285 (fun q34 H h => ?_)
  refine W.widen (k := 35) (n := 19078) (by decide) (by decide) ?_
  refine ipF C hnm 47 rfl rfl h rfl rfl rfl rfl dM_init_287 (fun H locs h => ?_)
  refine lv_aload_n hx hb dM_init_290 rfl (lv_at hl 0 rfl) ?_
  refine lv_bipush (v := 60) hx hb dM_init_291 (by decide) ?_
  refine newA_j C h (N := 60) (by decide) (by decide) (by decide) (by decide) (by decide) dM_init_293 (fun q35 H h => ?_)
  refine W.widen (k := 36) (n := 19138) (by decide) (by decide) ?_
  refine ipF C hnm 48 rfl rfl h rfl rfl rfl rfl dM_init_295 (fun H locs h => ?_)
  refine lv_aload_n hx hb dM_init_298 rfl (lv_at hl 0 rfl) ?_
  refine lv_bipush (v := 48) hx hb dM_init_299 (by decide) ?_
  refine newA_i C h (N := 48) (by decide) (by decide) (by decide) (by decide) (by decide) dM_init_301 (fun q36 H h => ?_)
  refine W.widen (k := 37) (n := 19186) (by decide) (by decide) ?_
  refine ipF C hnm 49 rfl rfl h rfl rfl rfl rfl dM_init_303 (fun H locs h => ?_)
  refine lv_aload_n hx hb dM_init_306 rfl (lv_at hl 0 rfl) ?_
  refine lv_bipush (v := 48) hx hb dM_init_307 (by decide) ?_
  refine newA_i C h (N := 48) (by decide) (by decide) (by decide) (by decide) (by decide) dM_init_309 (fun q37 H h => ?_)
  refine W.widen (k := 38) (n := 19234) (by decide) (by decide) ?_
  refine ipF C hnm 50 rfl rfl h rfl rfl rfl rfl dM_init_311 (fun H locs h => ?_)
  refine lv_aload_n hx hb dM_init_314 rfl (lv_at hl 0 rfl) ?_
  refine lv_bipush (v := 48) hx hb dM_init_315 (by decide) ?_
  refine newA_i C h (N := 48) (by decide) (by decide) (by decide) (by decide) (by decide) dM_init_317 (fun q38 H h => ?_)
  refine W.widen (k := 39) (n := 19282) (by decide) (by decide) ?_
  refine ipF C hnm 51 rfl rfl h rfl rfl rfl rfl dM_init_319 (fun H locs h => ?_)
  refine lv_aload_n hx hb dM_init_322 rfl (lv_at hl 0 rfl) ?_
  refine lv_bipush (v := 48) hx hb dM_init_323 (by decide) ?_
  refine newA_i C h (N := 48) (by decide) (by decide) (by decide) (by decide) (by decide) dM_init_325 (fun q39 H h => ?_)
  refine W.widen (k := 40) (n := 19330) (by decide) (by decide) ?_
  refine ipF C hnm 52 rfl rfl h rfl rfl rfl rfl dM_init_327 (fun H locs h => ?_)
  refine lv_aload_n hx hb dM_init_330 rfl (lv_at hl 0 rfl) ?_
  refine lv_bipush (v := 18) hx hb dM_init_331 (by decide) ?_
  refine newA_i C h (N := 18) (by decide) (by decide) (by decide) (by decide) (by decide) dM_init_333 (fun q40 H h => ?_)
  refine W.widen (k := 41) (n := 19348) (by decide) (by decide) ?_
  refine ipF C hnm 53 rfl rfl h rfl rfl rfl rfl dM_init_335 (fun H locs h => ?_)
  refine lv_aload_n hx hb dM_init_338 rfl (lv_at hl 0 rfl) ?_
  refine lv_bipush (v := 72) hx hb dM_init_339 (by decide) ?_
  refine newA_i C h (N := 72) (by decide) (by decide) (by decide) (by decide) (by decide) dM_init_341 (fun q41 H h => ?_)
  refine W.widen (k := 42) (n := 19420) (by decide) (by decide) ?_
  refine ipF C hnm 54 rfl rfl h rfl rfl rfl rfl dM_init_343 (fun H locs h => ?_)
  refine lv_aload_n hx hb dM_init_346 rfl (lv_at hl 0 rfl) ?_
  refine lv_bipush (v := 60) hx hb dM_init_347 (by decide) ?_
  refine newA_i C h (N := 60) (by decide) (by decide) (by decide) (by decide) (by decide) dM_init_349 (fun q42 H h => ?_)
  refine W.widen (k := 43) (n := 19480) (by decide) (by decide) ?_
  refine ipF C hnm 55 rfl rfl h rfl rfl rfl rfl dM_init_351 (fun H locs h => ?_)
  refine lv_aload_n hx hb dM_init_354 rfl (lv_at hl 0 rfl) ?_
  refine lv_bipush (v := 60) hx hb dM_init_355 (by decide) ?_
  refine newA_i C h (N := 60) (by decide) (by decide) (by decide) (by decide) (by decide) dM_init_357 (fun q43 H h => ?_)
  refine W.widen (k := 44) (n := 19540) (by decide) (by decide) ?_
  refine ipF C hnm 56 rfl rfl h rfl rfl rfl rfl dM_init_359 (fun H locs h => ?_)
  refine lv_aload_n hx hb dM_init_362 rfl (lv_at hl 0 rfl) ?_
  refine lv_bipush (v := 60) hx hb dM_init_363 (by decide) ?_
  refine newA_i C h (N := 60) (by decide) (by decide) (by decide) (by decide) (by decide) dM_init_365 (fun q44 H h => ?_)
  refine W.widen (k := 45) (n := 19600) (by decide) (by decide) ?_
  refine ipF C hnm 57 rfl rfl h rfl rfl rfl rfl dM_init_367 (fun H locs h => ?_)
  refine lv_aload_n hx hb dM_init_370 rfl (lv_at hl 0 rfl) ?_
  refine lv_bipush (v := 36) hx hb dM_init_371 (by decide) ?_
  refine newA_j C h (N := 36) (by decide) (by decide) (by decide) (by decide) (by decide) dM_init_373 (fun q45 H h => ?_)
  refine W.widen (k := 46) (n := 19636) (by decide) (by decide) ?_
  refine ipF C hnm 59 rfl rfl h rfl rfl rfl rfl dM_init_375 (fun H locs h => ?_)
  refine lv_aload_n hx hb dM_init_378 rfl (lv_at hl 0 rfl) ?_
  refine lv_bipush (v := 36) hx hb dM_init_379 (by decide) ?_
  refine newA_i C h (N := 36) (by decide) (by decide) (by decide) (by decide) (by decide) dM_init_381 (fun q46 H h => ?_)
  refine W.widen (k := 47) (n := 19672) (by decide) (by decide) ?_
  refine ipF C hnm 60 rfl rfl h rfl rfl rfl rfl dM_init_383 (fun H locs h => ?_)
  refine lv_aload_n hx hb dM_init_386 rfl (lv_at hl 0 rfl) ?_
  refine lv_sipush (v := 1300) hx hb dM_init_387 (by decide) ?_
  refine newA_i C h (N := 1300) (by decide) (by decide) (by decide) (by decide) (by decide) dM_init_390 (fun q47 H h => ?_)
  refine W.widen (k := 48) (n := 20972) (by decide) (by decide) ?_
  refine ipF C hnm 64 rfl rfl h rfl rfl rfl rfl dM_init_392 (fun H locs h => ?_)
  refine lv_aload_n hx hb dM_init_395 rfl (lv_at hl 0 rfl) ?_
  refine lv_sipush (v := 1300) hx hb dM_init_396 (by decide) ?_
  refine newA_i C h (N := 1300) (by decide) (by decide) (by decide) (by decide) (by decide) dM_init_399 (fun q48 H h => ?_)
  refine W.widen (k := 49) (n := 22272) (by decide) (by decide) ?_
  refine ipF C hnm 65 rfl rfl h rfl rfl rfl rfl dM_init_401 (fun H locs h => ?_)
  refine lv_aload_n hx hb dM_init_404 rfl (lv_at hl 0 rfl) ?_
  refine lv_sipush (v := 1300) hx hb dM_init_405 (by decide) ?_
  refine newA_i C h (N := 1300) (by decide) (by decide) (by decide) (by decide) (by decide) dM_init_408 (fun q49 H h => ?_)
  refine W.widen (k := 50) (n := 23572) (by decide) (by decide) ?_
  refine ipF C hnm 66 rfl rfl h rfl rfl rfl rfl dM_init_410 (fun H locs h => ?_)
  refine lv_aload_n hx hb dM_init_413 rfl (lv_at hl 0 rfl) ?_
  refine lv_sipush (v := 1300) hx hb dM_init_414 (by decide) ?_
  refine newA_i C h (N := 1300) (by decide) (by decide) (by decide) (by decide) (by decide) dM_init_417 (fun q50 H h => ?_)
  refine W.widen (k := 51) (n := 24872) (by decide) (by decide) ?_
  refine ipF C hnm 67 rfl rfl h rfl rfl rfl rfl dM_init_419 (fun H locs h => ?_)
  refine lv_aload_n hx hb dM_init_422 rfl (lv_at hl 0 rfl) ?_
  refine lv_sipush (v := 1300) hx hb dM_init_423 (by decide) ?_
  refine newA_i C h (N := 1300) (by decide) (by decide) (by decide) (by decide) (by decide) dM_init_426 (fun q51 H h => ?_)
  refine W.widen (k := 52) (n := 26172) (by decide) (by decide) ?_
  refine ipF C hnm 68 rfl rfl h rfl rfl rfl rfl dM_init_428 (fun H locs h => ?_)
  refine lv_aload_n hx hb dM_init_431 rfl (lv_at hl 0 rfl) ?_
  refine lv_sipush (v := 1300) hx hb dM_init_432 (by decide) ?_
  refine newA_i C h (N := 1300) (by decide) (by decide) (by decide) (by decide) (by decide) dM_init_435 (fun q52 H h => ?_)
  refine W.widen (k := 53) (n := 27472) (by decide) (by decide) ?_
  refine ipF C hnm 69 rfl rfl h rfl rfl rfl rfl dM_init_437 (fun H locs h => ?_)
  refine lv_aload_n hx hb dM_init_440 rfl (lv_at hl 0 rfl) ?_
  refine lv_sipush (v := 1300) hx hb dM_init_441 (by decide) ?_
  refine newA_i C h (N := 1300) (by decide) (by decide) (by decide) (by decide) (by decide) dM_init_444 (fun q53 H h => ?_)
  refine W.widen (k := 54) (n := 28772) (by decide) (by decide) ?_
  refine ipF C hnm 70 rfl rfl h rfl rfl rfl rfl dM_init_446 (fun H locs h => ?_)
  refine lv_aload_n hx hb dM_init_449 rfl (lv_at hl 0 rfl) ?_
  refine lv_sipush (v := 1300) hx hb dM_init_450 (by decide) ?_
  refine newA_i C h (N := 1300) (by decide) (by decide) (by decide) (by decide) (by decide) dM_init_453 (fun q54 H h => ?_)
  refine W.widen (k := 55) (n := 30072) (by decide) (by decide) ?_
  refine ipF C hnm 71 rfl rfl h rfl rfl rfl rfl dM_init_455 (fun H locs h => ?_)
  refine lv_aload_n hx hb dM_init_458 rfl (lv_at hl 0 rfl) ?_
  refine lv_sipush (v := 1300) hx hb dM_init_459 (by decide) ?_
  refine newA_i C h (N := 1300) (by decide) (by decide) (by decide) (by decide) (by decide) dM_init_462 (fun q55 H h => ?_)
  refine W.widen (k := 56) (n := 31372) (by decide) (by decide) ?_
  refine ipF C hnm 72 rfl rfl h rfl rfl rfl rfl dM_init_464 (fun H locs h => ?_)
  refine lv_aload_n hx hb dM_init_467 rfl (lv_at hl 0 rfl) ?_
  refine lv_sipush (v := 1300) hx hb dM_init_468 (by decide) ?_
  refine newA_i C h (N := 1300) (by decide) (by decide) (by decide) (by decide) (by decide) dM_init_471 (fun q56 H h => ?_)
  refine W.widen (k := 57) (n := 32672) (by decide) (by decide) ?_
  refine ipF C hnm 73 rfl rfl h rfl rfl rfl rfl dM_init_473 (fun H locs h => ?_)
  refine lv_aload_n hx hb dM_init_476 rfl (lv_at hl 0 rfl) ?_
  refine lv_sipush (v := 3900) hx hb dM_init_477 (by decide) ?_
  refine newA_i C h (N := 3900) (by decide) (by decide) (by decide) (by decide) (by decide) dM_init_480 (fun q57 H h => ?_)
  refine W.widen (k := 58) (n := 36572) (by decide) (by decide) ?_
  refine ipF C hnm 74 rfl rfl h rfl rfl rfl rfl dM_init_482 (fun H locs h => ?_)
  refine lv_aload_n hx hb dM_init_485 rfl (lv_at hl 0 rfl) ?_
  refine lv_sipush (v := 1300) hx hb dM_init_486 (by decide) ?_
  refine newA_i C h (N := 1300) (by decide) (by decide) (by decide) (by decide) (by decide) dM_init_489 (fun q58 H h => ?_)
  refine W.widen (k := 59) (n := 37872) (by decide) (by decide) ?_
  refine ipF C hnm 77 rfl rfl h rfl rfl rfl rfl dM_init_491 (fun H locs h => ?_)
  refine lv_aload_n hx hb dM_init_494 rfl (lv_at hl 0 rfl) ?_
  refine lv_sipush (v := 1300) hx hb dM_init_495 (by decide) ?_
  refine newA_i C h (N := 1300) (by decide) (by decide) (by decide) (by decide) (by decide) dM_init_498 (fun q59 H h => ?_)
  refine W.widen (k := 60) (n := 39172) (by decide) (by decide) ?_
  refine ipF C hnm 78 rfl rfl h rfl rfl rfl rfl dM_init_500 (fun H locs h => ?_)
  refine lv_aload_n hx hb dM_init_503 rfl (lv_at hl 0 rfl) ?_
  refine lv_sipush (v := 1300) hx hb dM_init_504 (by decide) ?_
  refine newA_i C h (N := 1300) (by decide) (by decide) (by decide) (by decide) (by decide) dM_init_507 (fun q60 H h => ?_)
  refine W.widen (k := 61) (n := 40472) (by decide) (by decide) ?_
  refine ipF C hnm 79 rfl rfl h rfl rfl rfl rfl dM_init_509 (fun H locs h => ?_)
  refine lv_aload_n hx hb dM_init_512 rfl (lv_at hl 0 rfl) ?_
  refine lv_sipush (v := 1300) hx hb dM_init_513 (by decide) ?_
  refine newA_i C h (N := 1300) (by decide) (by decide) (by decide) (by decide) (by decide) dM_init_516 (fun q61 H h => ?_)
  refine W.widen (k := 62) (n := 41772) (by decide) (by decide) ?_
  refine ipF C hnm 80 rfl rfl h rfl rfl rfl rfl dM_init_518 (fun H locs h => ?_)
  refine lv_aload_n hx hb dM_init_521 rfl (lv_at hl 0 rfl) ?_
  refine lv_sipush (v := 1300) hx hb dM_init_522 (by decide) ?_
  refine newA_i C h (N := 1300) (by decide) (by decide) (by decide) (by decide) (by decide) dM_init_525 (fun q62 H h => ?_)
  refine W.widen (k := 63) (n := 43072) (by decide) (by decide) ?_
  refine ipF C hnm 81 rfl rfl h rfl rfl rfl rfl dM_init_527 (fun H locs h => ?_)
  refine lv_aload_n hx hb dM_init_530 rfl (lv_at hl 0 rfl) ?_
  refine lv_sipush (v := 1300) hx hb dM_init_531 (by decide) ?_
  refine newA_i C h (N := 1300) (by decide) (by decide) (by decide) (by decide) (by decide) dM_init_534 (fun q63 H h => ?_)
  refine W.widen (k := 64) (n := 44372) (by decide) (by decide) ?_
  refine ipF C hnm 82 rfl rfl h rfl rfl rfl rfl dM_init_536 (fun H locs h => ?_)
  refine lv_aload_n hx hb dM_init_539 rfl (lv_at hl 0 rfl) ?_
  refine lv_sipush (v := 3900) hx hb dM_init_540 (by decide) ?_
  refine newA_i C h (N := 3900) (by decide) (by decide) (by decide) (by decide) (by decide) dM_init_543 (fun q64 H h => ?_)
  refine W.widen (k := 65) (n := 48272) (by decide) (by decide) ?_
  refine ipF C hnm 83 rfl rfl h rfl rfl rfl rfl dM_init_545 (fun H locs h => ?_)
  refine lv_aload_n hx hb dM_init_548 rfl (lv_at hl 0 rfl) ?_
  refine lv_sipush (v := 1300) hx hb dM_init_549 (by decide) ?_
  refine newA_i C h (N := 1300) (by decide) (by decide) (by decide) (by decide) (by decide) dM_init_552 (fun q65 H h => ?_)
  refine W.widen (k := 66) (n := 49572) (by decide) (by decide) ?_
  refine ipF C hnm 84 rfl rfl h rfl rfl rfl rfl dM_init_554 (fun H locs h => ?_)
  refine lv_aload_n hx hb dM_init_557 rfl (lv_at hl 0 rfl) ?_
  refine lv_sipush (v := 1300) hx hb dM_init_558 (by decide) ?_
  refine newA_i C h (N := 1300) (by decide) (by decide) (by decide) (by decide) (by decide) dM_init_561 (fun q66 H h => ?_)
  refine W.widen (k := 67) (n := 50872) (by decide) (by decide) ?_
  refine ipF C hnm 85 rfl rfl h rfl rfl rfl rfl dM_init_563 (fun H locs h => ?_)
  refine lv_aload_n hx hb dM_init_566 rfl (lv_at hl 0 rfl) ?_
  refine lv_sipush (v := 1300) hx hb dM_init_567 (by decide) ?_
  refine newA_i C h (N := 1300) (by decide) (by decide) (by decide) (by decide) (by decide) dM_init_570 (fun q67 H h => ?_)
  refine W.widen (k := 68) (n := 52172) (by decide) (by decide) ?_
  refine ipF C hnm 86 rfl rfl h rfl rfl rfl rfl dM_init_572 (fun H locs h => ?_)
  refine lv_aload_n hx hb dM_init_575 rfl (lv_at hl 0 rfl) ?_
  refine lv_sipush (v := 1300) hx hb dM_init_576 (by decide) ?_
  refine newA_i C h (N := 1300) (by decide) (by decide) (by decide) (by decide) (by decide) dM_init_579 (fun q68 H h => ?_)
  refine W.widen (k := 69) (n := 53472) (by decide) (by decide) ?_
  refine ipF C hnm 87 rfl rfl h rfl rfl rfl rfl dM_init_581 (fun H locs h => ?_)
  refine lv_aload_n hx hb dM_init_584 rfl (lv_at hl 0 rfl) ?_
  refine lv_sipush (v := 1300) hx hb dM_init_585 (by decide) ?_
  refine newA_i C h (N := 1300) (by decide) (by decide) (by decide) (by decide) (by decide) dM_init_588 (fun q69 H h => ?_)
  refine W.widen (k := 70) (n := 54772) (by decide) (by decide) ?_
  refine ipF C hnm 88 rfl rfl h rfl rfl rfl rfl dM_init_590 (fun H locs h => ?_)
  refine lv_aload_n hx hb dM_init_593 rfl (lv_at hl 0 rfl) ?_
  refine lv_sipush (v := 1300) hx hb dM_init_594 (by decide) ?_
  refine newA_z C h (N := 1300) (by decide) (by decide) (by decide) (by decide) (by decide) dM_init_597 (fun q70 H h => ?_)
  refine W.widen (k := 71) (n := 56072) (by decide) (by decide) ?_
  refine ipF C hnm 89 rfl rfl h rfl rfl rfl rfl dM_init_599 (fun H locs h => ?_)
  refine lv_aload_n hx hb dM_init_602 rfl (lv_at hl 0 rfl) ?_
  refine lv_sipush (v := 1300) hx hb dM_init_603 (by decide) ?_
  refine newA_i C h (N := 1300) (by decide) (by decide) (by decide) (by decide) (by decide) dM_init_606 (fun q71 H h => ?_)
  refine W.widen (k := 72) (n := 57372) (by decide) (by decide) ?_
  refine ipF C hnm 91 rfl rfl h rfl rfl rfl rfl dM_init_608 (fun H locs h => ?_)
  refine lv_aload_n hx hb dM_init_611 rfl (lv_at hl 0 rfl) ?_
  refine lv_sipush (v := 1300) hx hb dM_init_612 (by decide) ?_
  refine newA_i C h (N := 1300) (by decide) (by decide) (by decide) (by decide) (by decide) dM_init_615 (fun q72 H h => ?_)
  refine W.widen (k := 73) (n := 58672) (by decide) (by decide) ?_
  refine ipF C hnm 92 rfl rfl h rfl rfl rfl rfl dM_init_617 (fun H locs h => ?_)
  refine lv_aload_n hx hb dM_init_620 rfl (lv_at hl 0 rfl) ?_
  refine lv_sipush (v := 1300) hx hb dM_init_621 (by decide) ?_
  refine newA_i C h (N := 1300) (by decide) (by decide) (by decide) (by decide) (by decide) dM_init_624 (fun q73 H h => ?_)
  refine W.widen (k := 74) (n := 59972) (by decide) (by decide) ?_
  refine ipF C hnm 93 rfl rfl h rfl rfl rfl rfl dM_init_626 (fun H locs h => ?_)
  refine lv_aload_n hx hb dM_init_629 rfl (lv_at hl 0 rfl) ?_
  refine lv_sipush (v := 1300) hx hb dM_init_630 (by decide) ?_
  refine newA_i C h (N := 1300) (by decide) (by decide) (by decide) (by decide) (by decide) dM_init_633 (fun q74 H h => ?_)
  refine W.widen (k := 75) (n := 61272) (by decide) (by decide) ?_
  refine ipF C hnm 94 rfl rfl h rfl rfl rfl rfl dM_init_635 (fun H locs h => ?_)
  refine lv_aload_n hx hb dM_init_638 rfl (lv_at hl 0 rfl) ?_
  refine lv_bipush (v := 14) hx hb dM_init_639 (by decide) ?_
  refine newA_i C h (N := 14) (by decide) (by decide) (by decide) (by decide) (by decide) dM_init_641 (fun q75 H h => ?_)
  refine W.widen (k := 76) (n := 61286) (by decide) (by decide) ?_
  refine ipF C hnm 95 rfl rfl h rfl rfl rfl rfl dM_init_643 (fun H locs h => ?_)
  refine lv_aload_n hx hb dM_init_646 rfl (lv_at hl 0 rfl) ?_
  refine lv_bipush (v := 14) hx hb dM_init_647 (by decide) ?_
  refine newA_i C h (N := 14) (by decide) (by decide) (by decide) (by decide) (by decide) dM_init_649 (fun q76 H h => ?_)
  refine W.widen (k := 77) (n := 61300) (by decide) (by decide) ?_
  refine ipF C hnm 96 rfl rfl h rfl rfl rfl rfl dM_init_651 (fun H locs h => ?_)
  refine lv_aload_n hx hb dM_init_654 rfl (lv_at hl 0 rfl) ?_
  refine lv_bipush (v := 14) hx hb dM_init_655 (by decide) ?_
  refine newA_i C h (N := 14) (by decide) (by decide) (by decide) (by decide) (by decide) dM_init_657 (fun q77 H h => ?_)
  refine W.widen (k := 78) (n := 61314) (by decide) (by decide) ?_
  refine ipF C hnm 97 rfl rfl h rfl rfl rfl rfl dM_init_659 (fun H locs h => ?_)
  refine lv_aload_n hx hb dM_init_662 rfl (lv_at hl 0 rfl) ?_
  refine lv_bipush (v := 14) hx hb dM_init_663 (by decide) ?_
  refine newA_i C h (N := 14) (by decide) (by decide) (by decide) (by decide) (by decide) dM_init_665 (fun q78 H h => ?_)
  refine W.widen (k := 79) (n := 61328) (by decide) (by decide) ?_
  refine ipF C hnm 98 rfl rfl h rfl rfl rfl rfl dM_init_667 (fun H locs h => ?_)
  refine lv_aload_n hx hb dM_init_670 rfl (lv_at hl 0 rfl) ?_
  refine lv_bipush (v := 14) hx hb dM_init_671 (by decide) ?_
  refine newA_i C h (N := 14) (by decide) (by decide) (by decide) (by decide) (by decide) dM_init_673 (fun q79 H h => ?_)
  refine W.widen (k := 80) (n := 61342) (by decide) (by decide) ?_
  refine ipF C hnm 99 rfl rfl h rfl rfl rfl rfl dM_init_675 (fun H locs h => ?_)
  refine lv_aload_n hx hb dM_init_678 rfl (lv_at hl 0 rfl) ?_
  refine lv_bipush (v := 14) hx hb dM_init_679 (by decide) ?_
  refine newA_z C h (N := 14) (by decide) (by decide) (by decide) (by decide) (by decide) dM_init_681 (fun q80 H h => ?_)
  refine W.widen (k := 81) (n := 61356) (by decide) (by decide) ?_
  refine ipF C hnm 100 rfl rfl h rfl rfl rfl rfl dM_init_683 (fun H locs h => ?_)
  refine lv_aload_n hx hb dM_init_686 rfl (lv_at hl 0 rfl) ?_
  refine lv_bipush (v := 14) hx hb dM_init_687 (by decide) ?_
  refine newA_z C h (N := 14) (by decide) (by decide) (by decide) (by decide) (by decide) dM_init_689 (fun q81 H h => ?_)
  refine W.widen (k := 82) (n := 61370) (by decide) (by decide) ?_
  refine ipF C hnm 101 rfl rfl h rfl rfl rfl rfl dM_init_691 (fun H locs h => ?_)
  refine lv_aload_n hx hb dM_init_694 rfl (lv_at hl 0 rfl) ?_
  refine lv_sipush (v := 3000) hx hb dM_init_695 (by decide) ?_
  refine newA_i C h (N := 3000) (by decide) (by decide) (by decide) (by decide) (by decide) dM_init_698 (fun q82 H h => ?_)
  refine W.widen (k := 83) (n := 64370) (by decide) (by decide) ?_
  refine ipF C hnm 105 rfl rfl h rfl rfl rfl rfl dM_init_700 (fun H locs h => ?_)
  refine lv_aload_n hx hb dM_init_703 rfl (lv_at hl 0 rfl) ?_
  refine lv_sipush (v := 3000) hx hb dM_init_704 (by decide) ?_
  refine newA_i C h (N := 3000) (by decide) (by decide) (by decide) (by decide) (by decide) dM_init_707 (fun q83 H h => ?_)
  refine W.widen (k := 84) (n := 67370) (by decide) (by decide) ?_
  refine ipF C hnm 106 rfl rfl h rfl rfl rfl rfl dM_init_709 (fun H locs h => ?_)
  refine lv_aload_n hx hb dM_init_712 rfl (lv_at hl 0 rfl) ?_
  refine lv_sipush (v := 1240) hx hb dM_init_713 (by decide) ?_
  refine newA_i C h (N := 1240) (by decide) (by decide) (by decide) (by decide) (by decide) dM_init_716 (fun q84 H h => ?_)
  refine W.widen (k := 85) (n := 68610) (by decide) (by decide) ?_
  refine ipF C hnm 110 rfl rfl h rfl rfl rfl rfl dM_init_718 (fun H locs h => ?_)
  refine lv_aload_n hx hb dM_init_721 rfl (lv_at hl 0 rfl) ?_
  refine lv_sipush (v := 1240) hx hb dM_init_722 (by decide) ?_
  refine newA_i C h (N := 1240) (by decide) (by decide) (by decide) (by decide) (by decide) dM_init_725 (fun q85 H h => ?_)
  refine W.widen (k := 86) (n := 69850) (by decide) (by decide) ?_
  refine ipF C hnm 111 rfl rfl h rfl rfl rfl rfl dM_init_727 (fun H locs h => ?_)
  refine lv_aload_n hx hb dM_init_730 rfl (lv_at hl 0 rfl) ?_
  refine lv_sipush (v := 1202) hx hb dM_init_731 (by decide) ?_
  refine newA_i C h (N := 1202) (by decide) (by decide) (by decide) (by decide) (by decide) dM_init_734 (fun q86 H h => ?_)
  refine W.widen (k := 87) (n := 71052) (by decide) (by decide) ?_
  refine ipF C hnm 113 rfl rfl h rfl rfl rfl rfl dM_init_736 (fun H locs h => ?_)
  refine lv_aload_n hx hb dM_init_739 rfl (lv_at hl 0 rfl) ?_
  refine lv_sipush (v := 1202) hx hb dM_init_740 (by decide) ?_
  refine newA_i C h (N := 1202) (by decide) (by decide) (by decide) (by decide) (by decide) dM_init_743 (fun q87 H h => ?_)
  refine W.widen (k := 88) (n := 72254) (by decide) (by decide) ?_
  refine ipF C hnm 114 rfl rfl h rfl rfl rfl rfl dM_init_745 (fun H locs h => ?_)
  refine lv_aload_n hx hb dM_init_748 rfl (lv_at hl 0 rfl) ?_
  refine lv_sipush (v := 1202) hx hb dM_init_749 (by decide) ?_
  refine newA_z C h (N := 1202) (by decide) (by decide) (by decide) (by decide) (by decide) dM_init_752 (fun q88 H h => ?_)
  refine W.widen (k := 89) (n := 73456) (by decide) (by decide) ?_
  refine ipF C hnm 115 rfl rfl h rfl rfl rfl rfl dM_init_754 (fun H locs h => ?_)
  refine lv_aload_n hx hb dM_init_757 rfl (lv_at hl 0 rfl) ?_
  refine lv_bipush (v := 40) hx hb dM_init_758 (by decide) ?_
  refine newA_z C h (N := 40) (by decide) (by decide) (by decide) (by decide) (by decide) dM_init_760 (fun q89 H h => ?_)
  refine W.widen (k := 90) (n := 73496) (by decide) (by decide) ?_
  refine ipF C hnm 117 rfl rfl h rfl rfl rfl rfl dM_init_762 (fun H locs h => ?_)
  refine lv_aload_n hx hb dM_init_765 rfl (lv_at hl 0 rfl) ?_
  refine lv_iconst (v := -1) hx hb dM_init_766 (by decide) ?_
  refine ipI C h m_place (by decide) rfl rfl rfl rfl rfl dM_init_767 (fun H locs h => ?_)
  refine lv_aload_n hx hb dM_init_770 rfl (lv_at hl 0 rfl) ?_
  refine lv_sipush (v := 400) hx hb dM_init_771 (by decide) ?_
  refine newA_i C h (N := 400) (by decide) (by decide) (by decide) (by decide) (by decide) dM_init_774 (fun q90 H h => ?_)
  refine W.widen (k := 91) (n := 73896) (by decide) (by decide) ?_
  refine ipF C hnm 121 rfl rfl h rfl rfl rfl rfl dM_init_776 (fun H locs h => ?_)
  refine lv_aload_n hx hb dM_init_779 rfl (lv_at hl 0 rfl) ?_
  refine lv_sipush (v := 400) hx hb dM_init_780 (by decide) ?_
  refine newA_i C h (N := 400) (by decide) (by decide) (by decide) (by decide) (by decide) dM_init_783 (fun q91 H h => ?_)
  refine W.widen (k := 92) (n := 74296) (by decide) (by decide) ?_
  refine ipF C hnm 122 rfl rfl h rfl rfl rfl rfl dM_init_785 (fun H locs h => ?_)
  refine lv_aload_n hx hb dM_init_788 rfl (lv_at hl 0 rfl) ?_
  refine lv_bipush (v := 6) hx hb dM_init_789 (by decide) ?_
  refine newA_i C h (N := 6) (by decide) (by decide) (by decide) (by decide) (by decide) dM_init_791 (fun q92 H h => ?_)
  refine W.widen (k := 93) (n := 74302) (by decide) (by decide) ?_
  refine ipF C hnm 123 rfl rfl h rfl rfl rfl rfl dM_init_793 (fun H locs h => ?_)
  refine lv_aload_n hx hb dM_init_796 rfl (lv_at hl 0 rfl) ?_
  refine lv_sipush (v := 1300) hx hb dM_init_797 (by decide) ?_
  refine newA_z C h (N := 1300) (by decide) (by decide) (by decide) (by decide) (by decide) dM_init_800 (fun q93 H h => ?_)
  refine W.widen (k := 94) (n := 75602) (by decide) (by decide) ?_
  refine ipF C hnm 124 rfl rfl h rfl rfl rfl rfl dM_init_802 (fun H locs h => ?_)
  refine lv_aload_n hx hb dM_init_805 rfl (lv_at hl 0 rfl) ?_
  refine lv_sipush (v := 1104) hx hb dM_init_806 (by decide) ?_
  refine newA_i C h (N := 1104) (by decide) (by decide) (by decide) (by decide) (by decide) dM_init_809 (fun q94 H h => ?_)
  refine W.widen (k := 95) (n := 76706) (by decide) (by decide) ?_
  refine ipN C 125 rfl rfl h rfl rfl rfl rfl dM_init_811 (fun H locs h => ?_)
  refine lv_aload_n hx hb dM_init_814 rfl (lv_at hl 0 rfl) ?_
  refine lv_sipush (v := 2000) hx hb dM_init_815 (by decide) ?_
  refine newA_i C h (N := 2000) (by decide) (by decide) (by decide) (by decide) (by decide) dM_init_818 (fun q95 H h => ?_)
  refine W.widen (k := 96) (n := 78706) (by decide) (by decide) ?_
  refine ipF C hnm 140 rfl rfl h rfl rfl rfl rfl dM_init_820 (fun H locs h => ?_)
  refine lv_aload_n hx hb dM_init_823 rfl (lv_at hl 0 rfl) ?_
  refine lv_sipush (v := 1200) hx hb dM_init_824 (by decide) ?_
  refine newA_i C h (N := 1200) (by decide) (by decide) (by decide) (by decide) (by decide) dM_init_827 (fun q96 H h => ?_)
  refine W.widen (k := 97) (n := 79906) (by decide) (by decide) ?_
  refine ipF C hnm 141 rfl rfl h rfl rfl rfl rfl dM_init_829 (fun H locs h => ?_)
  refine lv_aload_n hx hb dM_init_832 rfl (lv_at hl 0 rfl) ?_
  refine lv_iconst (v := 3) hx hb dM_init_833 (by decide) ?_
  refine newA_i C h (N := 3) (by decide) (by decide) (by decide) (by decide) (by decide) dM_init_834 (fun q97 H h => ?_)
  refine W.widen (k := 98) (n := 79909) (by decide) (by decide) ?_
  refine ipF C hnm 146 rfl rfl h rfl rfl rfl rfl dM_init_836 (fun H locs h => ?_)
  refine lv_aload_n hx hb dM_init_839 rfl (lv_at hl 0 rfl) ?_
  refine lv_sipush (v := 1202) hx hb dM_init_840 (by decide) ?_
  refine newA_i C h (N := 1202) (by decide) (by decide) (by decide) (by decide) (by decide) dM_init_843 (fun q98 H h => ?_)
  refine W.widen (k := 99) (n := 81111) (by decide) (by decide) ?_
  refine ipF C hnm 147 rfl rfl h rfl rfl rfl rfl dM_init_845 (fun H locs h => ?_)
  refine lv_aload_n hx hb dM_init_848 rfl (lv_at hl 0 rfl) ?_
  refine lv_iconst (v := 3) hx hb dM_init_849 (by decide) ?_
  refine newA_i C h (N := 3) (by decide) (by decide) (by decide) (by decide) (by decide) dM_init_850 (fun q99 H h => ?_)
  refine W.widen (k := 100) (n := 81114) (by decide) (by decide) ?_
  refine ipF C hnm 150 rfl rfl h rfl rfl rfl rfl dM_init_852 (fun H locs h => ?_)
  refine lv_aload_n hx hb dM_init_855 rfl (lv_at hl 0 rfl) ?_
  refine lv_ldcw (v := 220800) hx hb C.1.2.2.2.1 (C.1.2.2.2.2 _ k_c317) dM_init_856 ?_
  refine newA_i C h (N := 220800) (by decide) (by decide) (by decide) (by decide) (by decide) dM_init_859 (fun q100 H h => ?_)
  refine W.widen (k := 101) (n := 301914) (by decide) (by decide) ?_
  refine ipF C hnm 154 rfl rfl h rfl rfl rfl rfl dM_init_861 (fun H locs h => ?_)
  refine lv_aload_n hx hb dM_init_864 rfl (lv_at hl 0 rfl) ?_
  refine lv_sipush (v := 1104) hx hb dM_init_865 (by decide) ?_
  refine newA_i C h (N := 1104) (by decide) (by decide) (by decide) (by decide) (by decide) dM_init_868 (fun q101 H h => ?_)
  refine W.widen (k := 102) (n := 303018) (by decide) (by decide) ?_
  refine ipF C hnm 155 rfl rfl h rfl rfl rfl rfl dM_init_870 (fun H locs h => ?_)
  refine lv_aload_n hx hb dM_init_873 rfl (lv_at hl 0 rfl) ?_
  refine lv_sipush (v := 200) hx hb dM_init_874 (by decide) ?_
  refine newA_i C h (N := 200) (by decide) (by decide) (by decide) (by decide) (by decide) dM_init_877 (fun q102 H h => ?_)
  refine W.widen (k := 103) (n := 303218) (by decide) (by decide) ?_
  refine ipF C hnm 156 rfl rfl h rfl rfl rfl rfl dM_init_879 (fun H locs h => ?_)
  refine lv_aload_n hx hb dM_init_882 rfl (lv_at hl 0 rfl) ?_
  refine lv_sipush (v := 200) hx hb dM_init_883 (by decide) ?_
  refine newA_i C h (N := 200) (by decide) (by decide) (by decide) (by decide) (by decide) dM_init_886 (fun q103 H h => ?_)
  refine W.widen (k := 104) (n := 303418) (by decide) (by decide) ?_
  refine ipF C hnm 157 rfl rfl h rfl rfl rfl rfl dM_init_888 (fun H locs h => ?_)
  refine lv_aload_n hx hb dM_init_891 rfl (lv_at hl 0 rfl) ?_
  refine lv_sipush (v := 200) hx hb dM_init_892 (by decide) ?_
  refine newA_i C h (N := 200) (by decide) (by decide) (by decide) (by decide) (by decide) dM_init_895 (fun q104 H h => ?_)
  refine W.widen (k := 105) (n := 303618) (by decide) (by decide) ?_
  refine ipF C hnm 158 rfl rfl h rfl rfl rfl rfl dM_init_897 (fun H locs h => ?_)
  refine lv_aload_n hx hb dM_init_900 rfl (lv_at hl 0 rfl) ?_
  refine lv_sipush (v := 200) hx hb dM_init_901 (by decide) ?_
  refine newA_i C h (N := 200) (by decide) (by decide) (by decide) (by decide) (by decide) dM_init_904 (fun q105 H h => ?_)
  refine W.widen (k := 106) (n := 303818) (by decide) (by decide) ?_
  refine ipF C hnm 159 rfl rfl h rfl rfl rfl rfl dM_init_906 (fun H locs h => ?_)
  refine lv_aload_n hx hb dM_init_909 rfl (lv_at hl 0 rfl) ?_
  refine lv_sipush (v := 200) hx hb dM_init_910 (by decide) ?_
  refine newA_i C h (N := 200) (by decide) (by decide) (by decide) (by decide) (by decide) dM_init_913 (fun q106 H h => ?_)
  refine W.widen (k := 107) (n := 304018) (by decide) (by decide) ?_
  refine ipF C hnm 160 rfl rfl h rfl rfl rfl rfl dM_init_915 (fun H locs h => ?_)
  refine lv_aload_n hx hb dM_init_918 rfl (lv_at hl 0 rfl) ?_
  refine lv_sipush (v := 200) hx hb dM_init_919 (by decide) ?_
  refine newA_i C h (N := 200) (by decide) (by decide) (by decide) (by decide) (by decide) dM_init_922 (fun q107 H h => ?_)
  refine W.widen (k := 108) (n := 304218) (by decide) (by decide) ?_
  refine ipF C hnm 161 rfl rfl h rfl rfl rfl rfl dM_init_924 (fun H locs h => ?_)
  refine lv_aload_n hx hb dM_init_927 rfl (lv_at hl 0 rfl) ?_
  refine lv_sipush (v := 200) hx hb dM_init_928 (by decide) ?_
  refine newA_i C h (N := 200) (by decide) (by decide) (by decide) (by decide) (by decide) dM_init_931 (fun q108 H h => ?_)
  refine W.widen (k := 109) (n := 304418) (by decide) (by decide) ?_
  refine ipF C hnm 162 rfl rfl h rfl rfl rfl rfl dM_init_933 (fun H locs h => ?_)
  refine lv_aload_n hx hb dM_init_936 rfl (lv_at hl 0 rfl) ?_
  refine lv_bipush (v := 8) hx hb dM_init_937 (by decide) ?_
  refine newA_j C h (N := 8) (by decide) (by decide) (by decide) (by decide) (by decide) dM_init_939 (fun q109 H h => ?_)
  refine W.widen (k := 110) (n := 304426) (by decide) (by decide) ?_
  refine ipF C hnm 173 rfl rfl h rfl rfl rfl rfl dM_init_941 (fun H locs h => ?_)
  refine lv_aload_n hx hb dM_init_944 rfl (lv_at hl 0 rfl) ?_
  refine lv_bipush (v := 8) hx hb dM_init_945 (by decide) ?_
  refine newA_i C h (N := 8) (by decide) (by decide) (by decide) (by decide) (by decide) dM_init_947 (fun q110 H h => ?_)
  refine W.widen (k := 111) (n := 304434) (by decide) (by decide) ?_
  refine ipF C hnm 174 rfl rfl h rfl rfl rfl rfl dM_init_949 (fun H locs h => ?_)
  refine lv_aload_n hx hb dM_init_952 rfl (lv_at hl 0 rfl) ?_
  refine lv_bipush (v := 40) hx hb dM_init_953 (by decide) ?_
  refine newA_i C h (N := 40) (by decide) (by decide) (by decide) (by decide) (by decide) dM_init_955 (fun q111 H h => ?_)
  refine W.widen (k := 112) (n := 304474) (by decide) (by decide) ?_
  refine ipF C hnm 175 rfl rfl h rfl rfl rfl rfl dM_init_957 (fun H locs h => ?_)
  refine lv_aload_n hx hb dM_init_960 rfl (lv_at hl 0 rfl) ?_
  refine lv_bipush (v := 40) hx hb dM_init_961 (by decide) ?_
  refine newA_i C h (N := 40) (by decide) (by decide) (by decide) (by decide) (by decide) dM_init_963 (fun q112 H h => ?_)
  refine W.widen (k := 113) (n := 304514) (by decide) (by decide) ?_
  refine ipF C hnm 176 rfl rfl h rfl rfl rfl rfl dM_init_965 (fun H locs h => ?_)
  refine lv_aload_n hx hb dM_init_968 rfl (lv_at hl 0 rfl) ?_
  refine lv_bipush (v := 40) hx hb dM_init_969 (by decide) ?_
  refine newA_i C h (N := 40) (by decide) (by decide) (by decide) (by decide) (by decide) dM_init_971 (fun q113 H h => ?_)
  refine W.widen (k := 114) (n := 304554) (by decide) (by decide) ?_
  refine ipF C hnm 177 rfl rfl h rfl rfl rfl rfl dM_init_973 (fun H locs h => ?_)
  refine lv_aload_n hx hb dM_init_976 rfl (lv_at hl 0 rfl) ?_
  refine lv_bipush (v := 40) hx hb dM_init_977 (by decide) ?_
  refine newA_i C h (N := 40) (by decide) (by decide) (by decide) (by decide) (by decide) dM_init_979 (fun q114 H h => ?_)
  refine W.widen (k := 115) (n := 304594) (by decide) (by decide) ?_
  refine ipF C hnm 178 rfl rfl h rfl rfl rfl rfl dM_init_981 (fun H locs h => ?_)
  refine lv_aload_n hx hb dM_init_984 rfl (lv_at hl 0 rfl) ?_
  refine lv_bipush (v := 120) hx hb dM_init_985 (by decide) ?_
  refine newA_i C h (N := 120) (by decide) (by decide) (by decide) (by decide) (by decide) dM_init_987 (fun q115 H h => ?_)
  refine W.widen (k := 116) (n := 304714) (by decide) (by decide) ?_
  refine ipF C hnm 179 rfl rfl h rfl rfl rfl rfl dM_init_989 (fun H locs h => ?_)
  refine lv_aload_n hx hb dM_init_992 rfl (lv_at hl 0 rfl) ?_
  refine lv_bipush (v := 120) hx hb dM_init_993 (by decide) ?_
  refine newA_i C h (N := 120) (by decide) (by decide) (by decide) (by decide) (by decide) dM_init_995 (fun q116 H h => ?_)
  refine W.widen (k := 117) (n := 304834) (by decide) (by decide) ?_
  refine ipF C hnm 180 rfl rfl h rfl rfl rfl rfl dM_init_997 (fun H locs h => ?_)
  refine lv_aload_n hx hb dM_init_1000 rfl (lv_at hl 0 rfl) ?_
  refine lv_bipush (v := 6) hx hb dM_init_1001 (by decide) ?_
  refine newA_i C h (N := 6) (by decide) (by decide) (by decide) (by decide) (by decide) dM_init_1003 (fun q117 H h => ?_)
  refine W.widen (k := 118) (n := 304840) (by decide) (by decide) ?_
  refine ipF C hnm 181 rfl rfl h rfl rfl rfl rfl dM_init_1005 (fun H locs h => ?_)
  refine lv_aload_n hx hb dM_init_1008 rfl (lv_at hl 0 rfl) ?_
  refine lv_iconst (v := 3) hx hb dM_init_1009 (by decide) ?_
  refine newA_i C h (N := 3) (by decide) (by decide) (by decide) (by decide) (by decide) dM_init_1010 (fun q118 H h => ?_)
  refine W.widen (k := 119) (n := 304843) (by decide) (by decide) ?_
  refine ipF C hnm 182 rfl rfl h rfl rfl rfl rfl dM_init_1012 (fun H locs h => ?_)
  refine lv_aload_n hx hb dM_init_1015 rfl (lv_at hl 0 rfl) ?_
  refine lv_iconst (v := 3) hx hb dM_init_1016 (by decide) ?_
  refine newA_i C h (N := 3) (by decide) (by decide) (by decide) (by decide) (by decide) dM_init_1017 (fun q119 H h => ?_)
  refine W.widen (k := 120) (n := 304846) (by decide) (by decide) ?_
  refine ipF C hnm 183 rfl rfl h rfl rfl rfl rfl dM_init_1019 (fun H locs h => ?_)
  refine lv_aload_n hx hb dM_init_1022 rfl (lv_at hl 0 rfl) ?_
  refine lv_bipush (v := 6) hx hb dM_init_1023 (by decide) ?_
  refine newA_i C h (N := 6) (by decide) (by decide) (by decide) (by decide) (by decide) dM_init_1025 (fun q120 H h => ?_)
  refine W.widen (k := 121) (n := 304852) (by decide) (by decide) ?_
  refine ipF C hnm 184 rfl rfl h rfl rfl rfl rfl dM_init_1027 (fun H locs h => ?_)
  refine lv_aload_n hx hb dM_init_1030 rfl (lv_at hl 0 rfl) ?_
  refine lv_bipush (v := 6) hx hb dM_init_1031 (by decide) ?_
  refine newA_z C h (N := 6) (by decide) (by decide) (by decide) (by decide) (by decide) dM_init_1033 (fun q121 H h => ?_)
  refine W.widen (k := 122) (n := 304858) (by decide) (by decide) ?_
  refine ipF C hnm 185 rfl rfl h rfl rfl rfl rfl dM_init_1035 (fun H locs h => ?_)
  rw [pW_end] at h
  exact t_initL (ak := ak) (sv := sv) C hr hlk hE h (lv_sub hl [0] rfl)
end
section
/-! rows over objects of any class, worlds as lists; calls over a part of the world -/
/-- a method that may use the String constants, with an int answer -/
def KIx {σ : Type} (ak sv : Nat → Nat) (l : Launch) (y : MethodName) (b : ByteArray) (n : Nat) (r : Option FieldType) (rm : Room) (g : GG) (w : va_W) (wd : σ → va_W) (av : List Value) (post : Int32 → σ → Prop) : Prop :=
  ∀ sz : Nat, Met l y (aw y b n r) rm (va_Pc av (fun U => gPre g w sz U ∧ sE ak sv (va_A w sz) U U.heap)) (va_Qi post (gB g wd (va_A w sz)) (va_A w sz)) rm.cells rm.slots (va_A w sz)
section ORows
variable {σ : Type} {ak sv : Nat → Nat} {p : Program} {l : Launch} {e : Env} {R : Room} {s : State} {m : MethodId} {args : Array Value} {below : List Frame} {meth : Method} {c : Code} {H H0 : Heap} {locs : List Loc} {cells slots : Nat} {Q : State → Prop}
variable {cc : ByteArray} {nL : Nat} {own : String} {A : Nat → Prop} {pc : Nat} {ls : Array Slot} {rest st : List Value} {g : GG} {w wc wr : va_W} {wd : σ → va_W} {rm : Room}
variable {y : MethodName} {b : ByteArray} {n d : Nat} {r : Option FieldType} {Cn : String} {T : u_T} {N ci index : Nat}
theorem Hx.cut (h : Hx g w A H0 H locs) (is : List Nat) (hn : va_nd is = true) (hs : is.map (fun i => w[i]?) = wc.map some) : Hx g wc A H0 H locs := by
  refine ⟨fun k q hk => ?_, h.2.1.sub is hn hs, h.2.2⟩
  have h1 : (is.map (fun i => w[i]?))[k]? = some (some q) := by rw [hs, List.getElem?_map, hk]; rfl
  rw [List.getElem?_map] at h1
  cases hi : is[k]? with
  | none => rw [hi] at h1; cases h1
  | some i => rw [hi] at h1; exact h.1 i q (Option.some.inj h1)
/-- getfield -/
theorem og (C : Cx p s m c cc nL own args g) (h : Hx g w A H0 H locs) (hin : ∀ w ∈ u_ws Cn T N, w ∈ tb) (q0 : Nat) {a : Nat} {fs : List Value} (he : w[q0]? = some (a, .inr (ci, fs))) (hc : vwCl[ci]? = some (Cn, T, N)) (k : Nat) (hk : k < N) (hl : Cond.fieldLink own index Cn (T k).2.1 (T k).2.2.1 ∈ tb) (ho : (T k).1 = Cn) {v : Value} (hv : fs[k]? = some v) (hdg : decode cc pc = .ok (.getfield index, 3))
    (kk : W p l e R s m args below meth c H locs cells slots Q (F0 m (pc + 3) ls (v :: rest))) : W p l e R s m args below meth c H locs cells slots Q (F0 m pc ls (.ref a :: rest)) :=
  va_get (D := (g.1, g.2.1)) (ci := ci) (v := v) (C := Cn) (T := T) (N := N) (ref := Cn) C.1.1 C.1.2.1 C.1.2.2.2.2 hin C.1.2.2.2.1 C.2 h.1 q0 he hc k hk (C.1.2.2.2.2 _ hl) (fun x hx => by rw [ho] at hx; exact hx) hv hdg kk
/-- putfield -/
theorem op (C : Cx p s m c cc nL own args g) (h : Hx g w A H0 H locs) (hin : ∀ w ∈ u_ws Cn T N, w ∈ tb) (ty0 : Nat → FieldType) (hty : ∀ k, k < N → parseFieldDescriptor (T k).2.2.1 = some (ty0 k)) (hnm : ∀ a, a < N → ∀ b, b < N → a ≠ b → (T a).2.1 ≠ (T b).2.1) (q0 : Nat) {a : Nat} {fs : List Value} (he : w[q0]? = some (a, .inr (ci, fs))) (hc : vwCl[ci]? = some (Cn, T, N)) (k : Nat) (hk : k < N) (hl : Cond.fieldLink own index Cn (T k).2.1 (T k).2.2.1 ∈ tb) (ho : (T k).1 = Cn) (hfin : (T k).2.2.2 = false) {v : Value} (hn : narrow (ty0 k) v = v) (hfit : fits (ty0 k) v = true) (hlen : k < fs.length) {w' : va_W} (hw : w.set q0 (a, .inr (ci, fs.set k v)) = w') (hdg : decode cc pc = .ok (.putfield index, 3))
    (kk : ∀ (H1 : Heap) (locs1 : List Loc), Hx g w' A H0 H1 locs1 → W p l e R s m args below meth c H1 locs1 cells slots Q (F0 m (pc + 3) ls rest)) : W p l e R s m args below meth c H locs cells slots Q (F0 m pc ls (v :: .ref a :: rest)) := by
  refine va_put (D := (g.1, g.2.1)) (ci := ci) (v := v) (ty := ty0 k) (C := Cn) (T := T) (N := N) (ref := Cn) C.1.1 C.1.2.1 C.1.2.2.2.2 hin ty0 hty hnm C.1.2.2.2.1 C.2 h.1 h.2.1 h.2.2.1 q0 he hc k hk (C.1.2.2.2.2 _ hl) (fun x hx => by rw [ho] at hx; exact hx) hfin (hty k hk) hn hfit hlen hdg (fun H1 locs1 hP hD hS => ?_)
  rw [hw] at hP hD
  exact kk H1 locs1 ⟨hP, hD, hS, h.2.2.2⟩
/-- putfield of a final field, in its constructor -/
theorem opF (C : Cx p s m c cc nL own args g) (h : Hx g w A H0 H locs) (hin : ∀ w ∈ u_ws Cn T N, w ∈ tb) (ty0 : Nat → FieldType) (hty : ∀ k, k < N → parseFieldDescriptor (T k).2.2.1 = some (ty0 k)) (hnm : ∀ a, a < N → ∀ b, b < N → a ≠ b → (T a).2.1 ≠ (T b).2.1) (hmn : meth.name = "<init>") (hco : Cn = own) (q0 : Nat) {a : Nat} {fs : List Value} (he : w[q0]? = some (a, .inr (ci, fs))) (hc : vwCl[ci]? = some (Cn, T, N)) (k : Nat) (hk : k < N) (hl : Cond.fieldLink own index Cn (T k).2.1 (T k).2.2.1 ∈ tb) (ho : (T k).1 = Cn) (hfin : (T k).2.2.2 = true) {v : Value} (hn : narrow (ty0 k) v = v) (hfit : fits (ty0 k) v = true) (hlen : k < fs.length) {w' : va_W} (hw : w.set q0 (a, .inr (ci, fs.set k v)) = w') (hdg : decode cc pc = .ok (.putfield index, 3))
    (kk : ∀ (H1 : Heap) (locs1 : List Loc), Hx g w' A H0 H1 locs1 → W p l e R s m args below meth c H1 locs1 cells slots Q (F0 m (pc + 3) ls rest)) : W p l e R s m args below meth c H locs cells slots Q (F0 m pc ls (v :: .ref a :: rest)) := by
  refine va_putF (D := (g.1, g.2.1)) (ci := ci) (v := v) (ty := ty0 k) (C := Cn) (T := T) (N := N) (ref := Cn) C.1.1 C.1.2.1 C.1.2.2.2.2 hin ty0 hty hnm C.1.2.2.2.1 C.2 h.1 h.2.1 h.2.2.1 q0 he hc k hk (C.1.2.2.2.2 _ hl) (fun x hx => by rw [ho] at hx; exact hx) hfin hmn (ho.trans hco) (hty k hk) hn hfit hlen hdg (fun H1 locs1 hP hD hS => ?_)
  rw [hw] at hP hD
  exact kk H1 locs1 ⟨hP, hD, hS, h.2.2.2⟩
/-- new -/
theorem on (C : Cx p s m c cc nL own args g) (h : Hx g w A H0 H locs) (hin : ∀ w ∈ u_ws Cn T N, w ∈ tb) (ty0 : Nat → FieldType) (hty : ∀ k, k < N → parseFieldDescriptor (T k).2.2.1 = some (ty0 k)) (hcl : Cond.classLink own index Cn ∈ tb) (hinst : Cond.instantiable Cn N ∈ tb) (hini : Cond.initialized Cn ∈ tb) (hc : vwCl[ci]? = some (Cn, T, N)) {fs : List Value} (hfs : ∀ j, j < N → defaultValue (ty0 j) = vp_V fs j) (hcells : cells + 1 ≤ R.cells) (hslots : slots + N ≤ R.slots) (hdg : decode cc pc = .ok (.new index, 3))
    (kk : ∀ (q : Nat) (H1 : Heap), Hx g (w ++ [(q, .inr (ci, fs))]) A H0 H1 locs → W p l e R s m args below meth c H1 locs (cells + 1) (slots + N) Q (F0 m (pc + 3) ls (.ref q :: rest))) : W p l e R s m args below meth c H locs cells slots Q (F0 m pc ls rest) := by
  refine va_new (ci := ci) (fs := fs) (C := Cn) (T := T) (N := N) C.1.1 C.1.2.1 C.1.2.2.2.2 hin ty0 hty C.1.2.2.2.1 (C.1.2.2.2.2 _ hcl) (C.1.2.2.2.2 _ hinst) (C.1.2.2.2.2 _ hini) C.2 h.1 h.2.1 h.2.2.1 h.2.2.2 hc hfs hcells hslots hdg (fun q H1 hP hD hS => ?_)
  exact kk q H1 ⟨hP, hD, hS, h.2.2.2⟩
/-- invokespecial of a constructor over a part of the world -/
theorem KV.callI {post : σ → Prop} {o : Nat} {As : List Value} (C : Cx p s m c cc nL own args g) (h : Hx g w A H0 H locs) (isC isR : List Nat) (hC : isC.map (fun i => w[i]?) = wc.map some) (hR : isR.map (fun i => w[i]?) = wr.map some) (hnC : va_nd isC = true) (hnR : va_nd isR = true) (hdis : ∀ i ∈ isR, i ∉ isC) (hM : KV l y b n rm g wc wd (.ref o :: As) post) (h1 : Cond.methodLink own index y ∈ tb) (h2 : Cond.instanceMethod y ∈ tb) (h3 : Cond.initialized y.cls ∈ tb) (h4 : Cond.code y b n none ∈ tb) (h5 : nPar y As.length) (h6 : y.name = "<init>") (hRm : rm.frames + 1 ≤ R.frames ∧ 8 + (n + 11) + rm.locals ≤ R.locals)
    (hls : ls.size = nL) (hst : st = As.reverse ++ .ref o :: rest) (hrm : (rest.map fun v => v.category).sum ≤ 8) (hdg : decode cc pc = .ok (.invokespecial index, 3)) (hf : cells + rm.cells ≤ R.cells ∧ slots + rm.slots ≤ R.slots)
    (kk : ∀ (u : σ) (H1 : Heap) (locs1 : List Loc), post u → Hx g (wr ++ wd u) A H0 H1 locs1 → W p l e R s m args below meth c H1 locs1 (cells + rm.cells) (slots + rm.slots) Q (F0 m (pc + 3) ls rest)) :
    W p l e R s m args below meth c H locs cells slots Q (F0 m pc ls st) := by
  have hc := h.cut isC hnC hC
  have hFc := hc.free
  refine va_callv (va_runI (As := As) (rest := rest) C.1 (hM H.size) (cwI As.length C.1.2.2.2.2 (aw_in h4) rfl rfl rfl (C.1.2.2.2.2 _ h3) (C.1.2.2.2.2 _ h1) (C.1.2.2.2.2 _ h2) h6 h5 hRm) ⟨gPre.blind, gPre.at C hc⟩ rfl rfl hls hst (lv_room hrm) hdg hf) h.2.2.1 (fun q _ hq => hFc q hq) hFc (fun u t H1 locs1 ht hvm hp hB hz hk hS => ?_)
  obtain ⟨hP, hD⟩ := va_join (wr := wr) (w1 := wd u) h.1 h.2.1 isC isR hC hR hnR hdis hk hFc (by rw [← ht]; exact hB.1) hB.2.2
  exact kk u H1 locs1 hp ⟨hP, hD, hS, h.2.2.2⟩
/-- the same, of one that uses the String constants -/
theorem KVx.callI {post : σ → Prop} {o : Nat} {As : List Value} (C : Cx p s m c cc nL own args g) (h : Hx g w A s.heap H locs) (hE : sE ak sv A s s.heap) (isC isR : List Nat) (hC : isC.map (fun i => w[i]?) = wc.map some) (hR : isR.map (fun i => w[i]?) = wr.map some) (hnC : va_nd isC = true) (hnR : va_nd isR = true) (hdis : ∀ i ∈ isR, i ∉ isC) (hM : KVx ak sv l y b n rm g wc wd (.ref o :: As) post) (h1 : Cond.methodLink own index y ∈ tb) (h2 : Cond.instanceMethod y ∈ tb) (h3 : Cond.initialized y.cls ∈ tb) (h4 : Cond.code y b n none ∈ tb) (h5 : nPar y As.length) (h6 : y.name = "<init>") (hRm : rm.frames + 1 ≤ R.frames ∧ 8 + (n + 11) + rm.locals ≤ R.locals)
    (hls : ls.size = nL) (hst : st = As.reverse ++ .ref o :: rest) (hrm : (rest.map fun v => v.category).sum ≤ 8) (hdg : decode cc pc = .ok (.invokespecial index, 3)) (hf : cells + rm.cells ≤ R.cells ∧ slots + rm.slots ≤ R.slots)
    (kk : ∀ (u : σ) (H1 : Heap) (locs1 : List Loc), post u → Hx g (wr ++ wd u) A s.heap H1 locs1 → W p l e R s m args below meth c H1 locs1 (cells + rm.cells) (slots + rm.slots) Q (F0 m (pc + 3) ls rest)) :
    W p l e R s m args below meth c H locs cells slots Q (F0 m pc ls st) := by
  have hc := h.cut isC hnC hC
  have hFc := hc.free
  refine va_callv (va_runI (As := As) (rest := rest) C.1 (hM H.size) (cwI As.length C.1.2.2.2.2 (aw_in h4) rfl rfl rfl (C.1.2.2.2.2 _ h3) (C.1.2.2.2.2 _ h1) (C.1.2.2.2.2 _ h2) h6 h5 hRm) ⟨fun a U g' mk q => ⟨q.1, (gPre.blind (av := []) (g := g) (w := wc) (sz := H.size) #[] U g' mk ⟨rfl, q.2.1⟩).2, sE.blind q.2.2⟩, fun U hU hW => ⟨rfl, (gPre.at (av := []) C hc U hU hW).2, sE.to hE h.2.2.1.2.1 hW hU hFc⟩⟩ rfl rfl hls hst (lv_room hrm) hdg hf) h.2.2.1 (fun q _ hq => hFc q hq) hFc (fun u t H1 locs1 ht hvm hp hB hz hk hS => ?_)
  obtain ⟨hP, hD⟩ := va_join (wr := wr) (w1 := wd u) h.1 h.2.1 isC isR hC hR hnR hdis hk hFc (by rw [← ht]; exact hB.1) hB.2.2
  exact kk u H1 locs1 hp ⟨hP, hD, hS, h.2.2.2⟩
/-- invokespecial of a nest mate's private constructor -/
theorem KV.callIN {post : σ → Prop} {o : Nat} {As : List Value} {host : String} (C : Cx p s m c cc nL own args g) (h : Hx g w A H0 H locs) (isC isR : List Nat) (hC : isC.map (fun i => w[i]?) = wc.map some) (hR : isR.map (fun i => w[i]?) = wr.map some) (hnC : va_nd isC = true) (hnR : va_nd isR = true) (hdis : ∀ i ∈ isR, i ∉ isC) (hM : KV l y b n rm g wc wd (.ref o :: As) post) (h1 : va_Nw (.methodLinkNest own index y host) s) (h2 : Cond.instanceMethod y ∈ tb) (h3 : Cond.initialized y.cls ∈ tb) (h4 : Cond.code y b n none ∈ tb) (h5 : nPar y As.length) (h6 : y.name = "<init>") (hRm : rm.frames + 1 ≤ R.frames ∧ 8 + (n + 11) + rm.locals ≤ R.locals)
    (hls : ls.size = nL) (hst : st = As.reverse ++ .ref o :: rest) (hrm : (rest.map fun v => v.category).sum ≤ 8) (hdg : decode cc pc = .ok (.invokespecial index, 3)) (hf : cells + rm.cells ≤ R.cells ∧ slots + rm.slots ≤ R.slots)
    (kk : ∀ (u : σ) (H1 : Heap) (locs1 : List Loc), post u → Hx g (wr ++ wd u) A H0 H1 locs1 → W p l e R s m args below meth c H1 locs1 (cells + rm.cells) (slots + rm.slots) Q (F0 m (pc + 3) ls rest)) :
    W p l e R s m args below meth c H locs cells slots Q (F0 m pc ls st) := by
  have hc := h.cut isC hnC hC
  have hFc := hc.free
  refine va_callv (va_runIN (As := As) (rest := rest) C.1 (hM H.size) ⟨va_cnB As.length C.1.2.2.2.2 (aw_in h4) rfl rfl rfl h1 (C.1.2.2.2.2 _ h3) h5 hRm, h6, C.1.2.2.2.2 _ h2⟩ ⟨gPre.blind, gPre.at C hc⟩ rfl rfl hls hst (lv_room hrm) hdg hf) h.2.2.1 (fun q _ hq => hFc q hq) hFc (fun u t H1 locs1 ht hvm hp hB hz hk hS => ?_)
  obtain ⟨hP, hD⟩ := va_join (wr := wr) (w1 := wd u) h.1 h.2.1 isC isR hC hR hnR hdis hk hFc (by rw [← ht]; exact hB.1) hB.2.2
  exact kk u H1 locs1 hp ⟨hP, hD, hS, h.2.2.2⟩
/-- invokestatic of another class's method without an answer, over a part of the world -/
theorem KV.callSs {post : σ → Prop} {As : List Value} (C : Cx p s m c cc nL own args g) (h : Hx g w A H0 H locs) (isC isR : List Nat) (hC : isC.map (fun i => w[i]?) = wc.map some) (hR : isR.map (fun i => w[i]?) = wr.map some) (hnC : va_nd isC = true) (hnR : va_nd isR = true) (hdis : ∀ i ∈ isR, i ∉ isC) (hM : KV l y b n rm g wc wd As post) (h1 : Cond.methodLink own index y ∈ tb) (h2 : Cond.static y ∈ tb) (h3 : Cond.initialized y.cls ∈ tb) (h4 : Cond.code y b n none ∈ tb) (h5 : nPar y As.length) (hRm : rm.frames + 1 ≤ R.frames ∧ 8 + (n + 11) + rm.locals ≤ R.locals)
    (hls : ls.size = nL) (hst : st = As.reverse ++ rest) (hrm : (rest.map fun v => v.category).sum ≤ 8) (hdg : decode cc pc = .ok (.invokestatic index, 3)) (hf : cells + rm.cells ≤ R.cells ∧ slots + rm.slots ≤ R.slots)
    (kk : ∀ (u : σ) (H1 : Heap) (locs1 : List Loc), post u → Hx g (wr ++ wd u) A H0 H1 locs1 → W p l e R s m args below meth c H1 locs1 (cells + rm.cells) (slots + rm.slots) Q (F0 m (pc + 3) ls rest)) :
    W p l e R s m args below meth c H locs cells slots Q (F0 m pc ls st) := by
  have hc := h.cut isC hnC hC
  have hFc := hc.free
  refine va_callv (va_runS (As := As) (rest := rest) C.1 (hM H.size) ⟨callB_of As.length C.1.2.2.2.2 (aw_in h4) rfl rfl rfl (C.1.2.2.2.2 _ h3) (C.1.2.2.2.2 _ h1) h5 hRm, C.1.2.2.2.2 _ h2⟩ ⟨gPre.blind, gPre.at C hc⟩ rfl rfl hls hst (lv_room hrm) hdg hf) h.2.2.1 (fun q _ hq => hFc q hq) hFc (fun u t H1 locs1 ht hvm hp hB hz hk hS => ?_)
  obtain ⟨hP, hD⟩ := va_join (wr := wr) (w1 := wd u) h.1 h.2.1 isC isR hC hR hnR hdis hk hFc (by rw [← ht]; exact hB.1) hB.2.2
  exact kk u H1 locs1 hp ⟨hP, hD, hS, h.2.2.2⟩
/-- invokevirtual over a part of the world -/
theorem KI.callVs {post : Int32 → σ → Prop} {o q0 : Nat} {fs As : List Value} (C : Cx p s m c cc nL own args g) (h : Hx g w A H0 H locs) (isC isR : List Nat) (hC : isC.map (fun i => w[i]?) = wc.map some) (hR : isR.map (fun i => w[i]?) = wr.map some) (hnC : va_nd isC = true) (hnR : va_nd isR = true) (hdis : ∀ i ∈ isR, i ∉ isC) (hM : KI l y b n r rm g wc wd (.ref o :: As) post) (hG : OkV own index y b n r As.length) (hRm : rm.frames + 1 ≤ R.frames ∧ 8 + (n + 11) + rm.locals ≤ R.locals)
    (hrec : w[q0]? = some (o, .inr (ci, fs))) (hcl : vwCl[ci]? = some (y.cls, T, N)) (hls : ls.size = nL) (hst : st = As.reverse ++ .ref o :: rest) (hrm : (rest.map fun v => v.category).sum ≤ 8) (hdg : decode cc pc = .ok (.invokevirtual index, 3)) (hf : cells + rm.cells ≤ R.cells ∧ slots + rm.slots ≤ R.slots)
    (kk : ∀ (v : Int32) (u : σ) (H1 : Heap) (locs1 : List Loc), post v u → Hx g (wr ++ wd u) A H0 H1 locs1 → W p l e R s m args below meth c H1 locs1 (cells + rm.cells) (slots + rm.slots) Q (F0 m (pc + 3) ls (.int v :: rest))) :
    W p l e R s m args below meth c H locs cells slots Q (F0 m pc ls st) := by
  have hc := h.cut isC hnC hC
  have hFc := hc.free
  refine va_calli (va_runV (As := As) (rest := rest) C.1 (hM H.size) (cwV As.length C.1.2.2.2.2 hG.1 rfl rfl rfl ⟨rfl, hG.2⟩ hRm) ⟨gPre.blind, va_recv C.2 h.1 hcl hrec, gPre.at C hc⟩ rfl rfl hls hst (lv_room hrm) hdg hf) h.2.2.1 (fun q _ hq => hFc q hq) hFc (fun v u t H1 locs1 ht hvm hp hB hz hk hS => ?_)
  obtain ⟨hP, hD⟩ := va_join (wr := wr) (w1 := wd u) h.1 h.2.1 isC isR hC hR hnR hdis hk hFc (by rw [← ht]; exact hB.1) hB.2.2
  exact kk v u H1 locs1 hp ⟨hP, hD, hS, h.2.2.2⟩
theorem KV.callVs {post : σ → Prop} {o q0 : Nat} {fs As : List Value} (C : Cx p s m c cc nL own args g) (h : Hx g w A H0 H locs) (isC isR : List Nat) (hC : isC.map (fun i => w[i]?) = wc.map some) (hR : isR.map (fun i => w[i]?) = wr.map some) (hnC : va_nd isC = true) (hnR : va_nd isR = true) (hdis : ∀ i ∈ isR, i ∉ isC) (hM : KV l y b n rm g wc wd (.ref o :: As) post) (hG : OkV own index y b n none As.length) (hRm : rm.frames + 1 ≤ R.frames ∧ 8 + (n + 11) + rm.locals ≤ R.locals)
    (hrec : w[q0]? = some (o, .inr (ci, fs))) (hcl : vwCl[ci]? = some (y.cls, T, N)) (hls : ls.size = nL) (hst : st = As.reverse ++ .ref o :: rest) (hrm : (rest.map fun v => v.category).sum ≤ 8) (hdg : decode cc pc = .ok (.invokevirtual index, 3)) (hf : cells + rm.cells ≤ R.cells ∧ slots + rm.slots ≤ R.slots)
    (kk : ∀ (u : σ) (H1 : Heap) (locs1 : List Loc), post u → Hx g (wr ++ wd u) A H0 H1 locs1 → W p l e R s m args below meth c H1 locs1 (cells + rm.cells) (slots + rm.slots) Q (F0 m (pc + 3) ls rest)) :
    W p l e R s m args below meth c H locs cells slots Q (F0 m pc ls st) := by
  have hc := h.cut isC hnC hC
  have hFc := hc.free
  refine va_callv (va_runV (As := As) (rest := rest) C.1 (hM H.size) (cwV As.length C.1.2.2.2.2 hG.1 rfl rfl rfl ⟨rfl, hG.2⟩ hRm) ⟨gPre.blind, va_recv C.2 h.1 hcl hrec, gPre.at C hc⟩ rfl rfl hls hst (lv_room hrm) hdg hf) h.2.2.1 (fun q _ hq => hFc q hq) hFc (fun u t H1 locs1 ht hvm hp hB hz hk hS => ?_)
  obtain ⟨hP, hD⟩ := va_join (wr := wr) (w1 := wd u) h.1 h.2.1 isC isR hC hR hnR hdis hk hFc (by rw [← ht]; exact hB.1) hB.2.2
  exact kk u H1 locs1 hp ⟨hP, hD, hS, h.2.2.2⟩
/-- invokevirtual of one that uses the String constants -/
theorem KIx.callVs {post : Int32 → σ → Prop} {o q0 : Nat} {fs As : List Value} (C : Cx p s m c cc nL own args g) (h : Hx g w A s.heap H locs) (hE : sE ak sv A s s.heap) (isC isR : List Nat) (hC : isC.map (fun i => w[i]?) = wc.map some) (hR : isR.map (fun i => w[i]?) = wr.map some) (hnC : va_nd isC = true) (hnR : va_nd isR = true) (hdis : ∀ i ∈ isR, i ∉ isC) (hM : KIx ak sv l y b n r rm g wc wd (.ref o :: As) post) (hG : OkV own index y b n r As.length) (hRm : rm.frames + 1 ≤ R.frames ∧ 8 + (n + 11) + rm.locals ≤ R.locals)
    (hrec : w[q0]? = some (o, .inr (ci, fs))) (hcl : vwCl[ci]? = some (y.cls, T, N)) (hls : ls.size = nL) (hst : st = As.reverse ++ .ref o :: rest) (hrm : (rest.map fun v => v.category).sum ≤ 8) (hdg : decode cc pc = .ok (.invokevirtual index, 3)) (hf : cells + rm.cells ≤ R.cells ∧ slots + rm.slots ≤ R.slots)
    (kk : ∀ (v : Int32) (u : σ) (H1 : Heap) (locs1 : List Loc), post v u → Hx g (wr ++ wd u) A s.heap H1 locs1 → W p l e R s m args below meth c H1 locs1 (cells + rm.cells) (slots + rm.slots) Q (F0 m (pc + 3) ls (.int v :: rest))) :
    W p l e R s m args below meth c H locs cells slots Q (F0 m pc ls st) := by
  have hc := h.cut isC hnC hC
  have hFc := hc.free
  refine va_calli (va_runV (As := As) (rest := rest) C.1 (hM H.size) (cwV As.length C.1.2.2.2.2 hG.1 rfl rfl rfl ⟨rfl, hG.2⟩ hRm) ⟨fun a U g' mk q => ⟨q.1, (gPre.blind (av := []) (g := g) (w := wc) (sz := H.size) #[] U g' mk ⟨rfl, q.2.1⟩).2, sE.blind q.2.2⟩, va_recv C.2 h.1 hcl hrec, fun U hU hW => ⟨rfl, (gPre.at (av := []) C hc U hU hW).2, sE.to hE h.2.2.1.2.1 hW hU hFc⟩⟩ rfl rfl hls hst (lv_room hrm) hdg hf) h.2.2.1 (fun q _ hq => hFc q hq) hFc (fun v u t H1 locs1 ht hvm hp hB hz hk hS => ?_)
  obtain ⟨hP, hD⟩ := va_join (wr := wr) (w1 := wd u) h.1 h.2.1 isC isR hC hR hnR hdis hk hFc (by rw [← ht]; exact hB.1) hB.2.2
  exact kk v u H1 locs1 hp ⟨hP, hD, hS, h.2.2.2⟩
theorem KIx.of {av : List Value} {post : Int32 → σ → Prop} (hy : plainName y.cls = true) (hn : (lg_sl av).length ≤ n)
    (kk : ∀ (p : Program) (e : Env) (s : State) (m : MethodId) (below : List Frame) (meth : Method) (c : Code) (A : Nat → Prop) (ls : Array Slot), Cx p s m c b n y.cls av.toArray g → meth.sig.returnType = r → meth.locks = false → meth.name = y.name → Hx g w A s.heap s.heap [] → sE ak sv A s s.heap → lv_has ls n (lv_args 0 av) →
      W p l e rm s m av.toArray below meth c s.heap [] 0 0 (MQ below (va_Qi post (gB g wd A) A) av.toArray s rm.cells rm.slots A) (F0 m 0 ls [])) : KIx ak sv l y b n r rm g w wd av post := by
  intro sz
  refine Met.ofW (cc := b) (maxL := n) (ret := r) hy rfl ?_
  intro p e s m args below meth c s₁ B hml hv
  obtain ⟨rfl, ⟨hsz, hP, hK, hD0⟩, hE⟩ := hv
  have hts := atoms_spec (ws := aw y b n r) B.pre
  have hown : s.vm.findClass y.cls = some m.cls := findClass_of_methodNamed B.named
  subst hsz
  have hl := lv_entry av (n := n) hn
  rw [lg_entry_eq]
  exact kk p e s m below meth c _ _ ⟨⟨B.exec, B.bytes, hml, hown, fun w h => hts w (List.mem_cons_of_mem _ h)⟩, hK⟩ B.returns B.notSynchronized (name_of_methodNamed B.named B.method).1 ⟨hP, hD0.self, va_S.rf, fun q h => Or.inr h⟩ hE hl
end ORows
end
