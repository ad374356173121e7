section
/-- a private method of a class that the tables say can be made, by its rows of tables_1 -/
def lw_okq (q : MethodName × Nat) : Prop := (q.1.cls ≠ "java/lang/invoke/MethodHandle" ∧ q.1.cls ≠ "java/lang/invoke/VarHandle") ∧ Cond.instantiable q.1.cls q.2 ∈ tables_1 ∧ Cond.privateMethod q.1 ∈ tables_1 ∧ Cond.instanceMethod q.1 ∈ tables_1
theorem lw_p0 : lw_okq (⟨"ExchangeHouse", "write", "(I)V"⟩, 12) := ⟨⟨by decide +kernel, by decide +kernel⟩, List.mem_of_getElem? (i := 22) (by decide +kernel), List.mem_of_getElem? (i := 72) (by decide +kernel), List.mem_of_getElem? (i := 73) (by decide +kernel)⟩
theorem lw_p1 : lw_okq (⟨"ExchangeHouse$Tokens", "learn", "(Ljava/lang/String;I)I"⟩, 12) := ⟨⟨by decide +kernel, by decide +kernel⟩, List.mem_of_getElem? (i := 80) (by decide +kernel), List.mem_of_getElem? (i := 90) (by decide +kernel), List.mem_of_getElem? (i := 91) (by decide +kernel)⟩
theorem lw_p2 : lw_okq (⟨"ExchangeHouse$Tokens", "gap", "(I)I"⟩, 12) := ⟨⟨by decide +kernel, by decide +kernel⟩, List.mem_of_getElem? (i := 80) (by decide +kernel), List.mem_of_getElem? (i := 510) (by decide +kernel), List.mem_of_getElem? (i := 511) (by decide +kernel)⟩
theorem lw_p3 : lw_okq (⟨"ExchangeHouse$Tokens", "token", "(II)I"⟩, 12) := ⟨⟨by decide +kernel, by decide +kernel⟩, List.mem_of_getElem? (i := 80) (by decide +kernel), List.mem_of_getElem? (i := 514) (by decide +kernel), List.mem_of_getElem? (i := 515) (by decide +kernel)⟩
theorem lw_p4 : lw_okq (⟨"ExchangeHouse$Tokens", "byteAt", "(I)I"⟩, 12) := ⟨⟨by decide +kernel, by decide +kernel⟩, List.mem_of_getElem? (i := 80) (by decide +kernel), List.mem_of_getElem? (i := 518) (by decide +kernel), List.mem_of_getElem? (i := 519) (by decide +kernel)⟩
theorem lw_p5 : lw_okq (⟨"ExchangeHouse$Tokens", "sign", "(II)I"⟩, 12) := ⟨⟨by decide +kernel, by decide +kernel⟩, List.mem_of_getElem? (i := 80) (by decide +kernel), List.mem_of_getElem? (i := 522) (by decide +kernel), List.mem_of_getElem? (i := 523) (by decide +kernel)⟩
theorem lw_p6 : lw_okq (⟨"ExchangeHouse$Tokens", "word", "(II)I"⟩, 12) := ⟨⟨by decide +kernel, by decide +kernel⟩, List.mem_of_getElem? (i := 80) (by decide +kernel), List.mem_of_getElem? (i := 532) (by decide +kernel), List.mem_of_getElem? (i := 533) (by decide +kernel)⟩
theorem lw_p7 : lw_okq (⟨"ExchangeHouse$Tokens", "wordKind", "(J)I"⟩, 12) := ⟨⟨by decide +kernel, by decide +kernel⟩, List.mem_of_getElem? (i := 80) (by decide +kernel), List.mem_of_getElem? (i := 536) (by decide +kernel), List.mem_of_getElem? (i := 537) (by decide +kernel)⟩
theorem lw_p8 : lw_okq (⟨"ExchangeHouse$Tokens", "digits", "(II)I"⟩, 12) := ⟨⟨by decide +kernel, by decide +kernel⟩, List.mem_of_getElem? (i := 80) (by decide +kernel), List.mem_of_getElem? (i := 540) (by decide +kernel), List.mem_of_getElem? (i := 541) (by decide +kernel)⟩
theorem lw_p9 : lw_okq (⟨"ExchangeHouse$Parser", "isOver", "(I)Z"⟩, 6) := ⟨⟨by decide +kernel, by decide +kernel⟩, List.mem_of_getElem? (i := 199) (by decide +kernel), List.mem_of_getElem? (i := 557) (by decide +kernel), List.mem_of_getElem? (i := 558) (by decide +kernel)⟩
theorem lw_p10 : lw_okq (⟨"ExchangeHouse$Parser", "fits", "(I)Z"⟩, 6) := ⟨⟨by decide +kernel, by decide +kernel⟩, List.mem_of_getElem? (i := 199) (by decide +kernel), List.mem_of_getElem? (i := 565) (by decide +kernel), List.mem_of_getElem? (i := 566) (by decide +kernel)⟩
theorem lw_p11 : lw_okq (⟨"ExchangeHouse$Parser", "signals", "()V"⟩, 6) := ⟨⟨by decide +kernel, by decide +kernel⟩, List.mem_of_getElem? (i := 199) (by decide +kernel), List.mem_of_getElem? (i := 577) (by decide +kernel), List.mem_of_getElem? (i := 578) (by decide +kernel)⟩
theorem lw_p12 : lw_okq (⟨"ExchangeHouse$Parser", "told", "(LExchangeHouse$Names;)I"⟩, 6) := ⟨⟨by decide +kernel, by decide +kernel⟩, List.mem_of_getElem? (i := 199) (by decide +kernel), List.mem_of_getElem? (i := 581) (by decide +kernel), List.mem_of_getElem? (i := 582) (by decide +kernel)⟩
theorem lw_p13 : lw_okq (⟨"ExchangeHouse$Parser", "sorts", "(I)V"⟩, 6) := ⟨⟨by decide +kernel, by decide +kernel⟩, List.mem_of_getElem? (i := 199) (by decide +kernel), List.mem_of_getElem? (i := 597) (by decide +kernel), List.mem_of_getElem? (i := 598) (by decide +kernel)⟩
theorem lw_p14 : lw_okq (⟨"ExchangeHouse$Parser", "sort", "()I"⟩, 6) := ⟨⟨by decide +kernel, by decide +kernel⟩, List.mem_of_getElem? (i := 199) (by decide +kernel), List.mem_of_getElem? (i := 601) (by decide +kernel), List.mem_of_getElem? (i := 602) (by decide +kernel)⟩
theorem lw_p15 : lw_okq (⟨"ExchangeHouse$Parser", "route", "()V"⟩, 6) := ⟨⟨by decide +kernel, by decide +kernel⟩, List.mem_of_getElem? (i := 199) (by decide +kernel), List.mem_of_getElem? (i := 611) (by decide +kernel), List.mem_of_getElem? (i := 612) (by decide +kernel)⟩
def lw_privs_1 : List (MethodName × Nat) := [(⟨"ExchangeHouse", "write", "(I)V"⟩, 12), (⟨"ExchangeHouse$Tokens", "learn", "(Ljava/lang/String;I)I"⟩, 12), (⟨"ExchangeHouse$Tokens", "gap", "(I)I"⟩, 12), (⟨"ExchangeHouse$Tokens", "token", "(II)I"⟩, 12), (⟨"ExchangeHouse$Tokens", "byteAt", "(I)I"⟩, 12), (⟨"ExchangeHouse$Tokens", "sign", "(II)I"⟩, 12), (⟨"ExchangeHouse$Tokens", "word", "(II)I"⟩, 12), (⟨"ExchangeHouse$Tokens", "wordKind", "(J)I"⟩, 12), (⟨"ExchangeHouse$Tokens", "digits", "(II)I"⟩, 12), (⟨"ExchangeHouse$Parser", "isOver", "(I)Z"⟩, 6), (⟨"ExchangeHouse$Parser", "fits", "(I)Z"⟩, 6), (⟨"ExchangeHouse$Parser", "signals", "()V"⟩, 6), (⟨"ExchangeHouse$Parser", "told", "(LExchangeHouse$Names;)I"⟩, 6), (⟨"ExchangeHouse$Parser", "sorts", "(I)V"⟩, 6), (⟨"ExchangeHouse$Parser", "sort", "()I"⟩, 6), (⟨"ExchangeHouse$Parser", "route", "()V"⟩, 6)]
theorem lw_r1 : ∀ q ∈ lw_privs_1, lw_okq q := List.forall_mem_cons.mpr ⟨lw_p0, List.forall_mem_cons.mpr ⟨lw_p1, List.forall_mem_cons.mpr ⟨lw_p2, List.forall_mem_cons.mpr ⟨lw_p3, List.forall_mem_cons.mpr ⟨lw_p4, List.forall_mem_cons.mpr ⟨lw_p5, List.forall_mem_cons.mpr ⟨lw_p6, List.forall_mem_cons.mpr ⟨lw_p7, List.forall_mem_cons.mpr ⟨lw_p8, List.forall_mem_cons.mpr ⟨lw_p9, List.forall_mem_cons.mpr ⟨lw_p10, List.forall_mem_cons.mpr ⟨lw_p11, List.forall_mem_cons.mpr ⟨lw_p12, List.forall_mem_cons.mpr ⟨lw_p13, List.forall_mem_cons.mpr ⟨lw_p14, List.forall_mem_cons.mpr ⟨lw_p15, fun _ h => absurd h List.not_mem_nil⟩⟩⟩⟩⟩⟩⟩⟩⟩⟩⟩⟩⟩⟩⟩⟩
theorem lw_p16 : lw_okq (⟨"ExchangeHouse$Parser", "side", "(I)V"⟩, 6) := ⟨⟨by decide +kernel, by decide +kernel⟩, List.mem_of_getElem? (i := 199) (by decide +kernel), List.mem_of_getElem? (i := 615) (by decide +kernel), List.mem_of_getElem? (i := 616) (by decide +kernel)⟩
theorem lw_p17 : lw_okq (⟨"ExchangeHouse$Parser", "number", "(I)I"⟩, 6) := ⟨⟨by decide +kernel, by decide +kernel⟩, List.mem_of_getElem? (i := 199) (by decide +kernel), List.mem_of_getElem? (i := 623) (by decide +kernel), List.mem_of_getElem? (i := 624) (by decide +kernel)⟩
theorem lw_p18 : lw_okq (⟨"ExchangeHouse$Parser", "secondNumber", "(I)I"⟩, 6) := ⟨⟨by decide +kernel, by decide +kernel⟩, List.mem_of_getElem? (i := 199) (by decide +kernel), List.mem_of_getElem? (i := 627) (by decide +kernel), List.mem_of_getElem? (i := 628) (by decide +kernel)⟩
theorem lw_p19 : lw_okq (⟨"ExchangeHouse$Parser", "heading", "()V"⟩, 6) := ⟨⟨by decide +kernel, by decide +kernel⟩, List.mem_of_getElem? (i := 199) (by decide +kernel), List.mem_of_getElem? (i := 635) (by decide +kernel), List.mem_of_getElem? (i := 636) (by decide +kernel)⟩
theorem lw_p20 : lw_okq (⟨"ExchangeHouse$Parser", "parameters", "()V"⟩, 6) := ⟨⟨by decide +kernel, by decide +kernel⟩, List.mem_of_getElem? (i := 199) (by decide +kernel), List.mem_of_getElem? (i := 643) (by decide +kernel), List.mem_of_getElem? (i := 644) (by decide +kernel)⟩
theorem lw_p21 : lw_okq (⟨"ExchangeHouse$Parser", "variable", "()V"⟩, 6) := ⟨⟨by decide +kernel, by decide +kernel⟩, List.mem_of_getElem? (i := 199) (by decide +kernel), List.mem_of_getElem? (i := 654) (by decide +kernel), List.mem_of_getElem? (i := 655) (by decide +kernel)⟩
theorem lw_p22 : lw_okq (⟨"ExchangeHouse$Parser", "length", "()I"⟩, 6) := ⟨⟨by decide +kernel, by decide +kernel⟩, List.mem_of_getElem? (i := 199) (by decide +kernel), List.mem_of_getElem? (i := 658) (by decide +kernel), List.mem_of_getElem? (i := 659) (by decide +kernel)⟩
theorem lw_p23 : lw_okq (⟨"ExchangeHouse$Parser", "starting", "()V"⟩, 6) := ⟨⟨by decide +kernel, by decide +kernel⟩, List.mem_of_getElem? (i := 199) (by decide +kernel), List.mem_of_getElem? (i := 663) (by decide +kernel), List.mem_of_getElem? (i := 664) (by decide +kernel)⟩
theorem lw_p24 : lw_okq (⟨"ExchangeHouse$Parser", "trans", "()I"⟩, 6) := ⟨⟨by decide +kernel, by decide +kernel⟩, List.mem_of_getElem? (i := 199) (by decide +kernel), List.mem_of_getElem? (i := 667) (by decide +kernel), List.mem_of_getElem? (i := 668) (by decide +kernel)⟩
theorem lw_p25 : lw_okq (⟨"ExchangeHouse$Parser", "part", "()Z"⟩, 6) := ⟨⟨by decide +kernel, by decide +kernel⟩, List.mem_of_getElem? (i := 199) (by decide +kernel), List.mem_of_getElem? (i := 671) (by decide +kernel), List.mem_of_getElem? (i := 672) (by decide +kernel)⟩
theorem lw_p26 : lw_okq (⟨"ExchangeHouse$Parser", "act", "()I"⟩, 6) := ⟨⟨by decide +kernel, by decide +kernel⟩, List.mem_of_getElem? (i := 199) (by decide +kernel), List.mem_of_getElem? (i := 678) (by decide +kernel), List.mem_of_getElem? (i := 679) (by decide +kernel)⟩
theorem lw_p27 : lw_okq (⟨"ExchangeHouse$Parser", "labels", "()V"⟩, 6) := ⟨⟨by decide +kernel, by decide +kernel⟩, List.mem_of_getElem? (i := 199) (by decide +kernel), List.mem_of_getElem? (i := 682) (by decide +kernel), List.mem_of_getElem? (i := 683) (by decide +kernel)⟩
theorem lw_p28 : lw_okq (⟨"ExchangeHouse$Parser", "decide", "()Z"⟩, 6) := ⟨⟨by decide +kernel, by decide +kernel⟩, List.mem_of_getElem? (i := 199) (by decide +kernel), List.mem_of_getElem? (i := 686) (by decide +kernel), List.mem_of_getElem? (i := 687) (by decide +kernel)⟩
theorem lw_p29 : lw_okq (⟨"ExchangeHouse$Parser", "expression", "(I)V"⟩, 6) := ⟨⟨by decide +kernel, by decide +kernel⟩, List.mem_of_getElem? (i := 199) (by decide +kernel), List.mem_of_getElem? (i := 690) (by decide +kernel), List.mem_of_getElem? (i := 691) (by decide +kernel)⟩
theorem lw_p30 : lw_okq (⟨"ExchangeHouse$Parser", "unary", "()V"⟩, 6) := ⟨⟨by decide +kernel, by decide +kernel⟩, List.mem_of_getElem? (i := 199) (by decide +kernel), List.mem_of_getElem? (i := 694) (by decide +kernel), List.mem_of_getElem? (i := 695) (by decide +kernel)⟩
theorem lw_p31 : lw_okq (⟨"ExchangeHouse$Parser", "operand", "(II)V"⟩, 6) := ⟨⟨by decide +kernel, by decide +kernel⟩, List.mem_of_getElem? (i := 199) (by decide +kernel), List.mem_of_getElem? (i := 698) (by decide +kernel), List.mem_of_getElem? (i := 699) (by decide +kernel)⟩
def lw_privs_2 : List (MethodName × Nat) := [(⟨"ExchangeHouse$Parser", "side", "(I)V"⟩, 6), (⟨"ExchangeHouse$Parser", "number", "(I)I"⟩, 6), (⟨"ExchangeHouse$Parser", "secondNumber", "(I)I"⟩, 6), (⟨"ExchangeHouse$Parser", "heading", "()V"⟩, 6), (⟨"ExchangeHouse$Parser", "parameters", "()V"⟩, 6), (⟨"ExchangeHouse$Parser", "variable", "()V"⟩, 6), (⟨"ExchangeHouse$Parser", "length", "()I"⟩, 6), (⟨"ExchangeHouse$Parser", "starting", "()V"⟩, 6), (⟨"ExchangeHouse$Parser", "trans", "()I"⟩, 6), (⟨"ExchangeHouse$Parser", "part", "()Z"⟩, 6), (⟨"ExchangeHouse$Parser", "act", "()I"⟩, 6), (⟨"ExchangeHouse$Parser", "labels", "()V"⟩, 6), (⟨"ExchangeHouse$Parser", "decide", "()Z"⟩, 6), (⟨"ExchangeHouse$Parser", "expression", "(I)V"⟩, 6), (⟨"ExchangeHouse$Parser", "unary", "()V"⟩, 6), (⟨"ExchangeHouse$Parser", "operand", "(II)V"⟩, 6)]
theorem lw_r2 : ∀ q ∈ lw_privs_2, lw_okq q := List.forall_mem_cons.mpr ⟨lw_p16, List.forall_mem_cons.mpr ⟨lw_p17, List.forall_mem_cons.mpr ⟨lw_p18, List.forall_mem_cons.mpr ⟨lw_p19, List.forall_mem_cons.mpr ⟨lw_p20, List.forall_mem_cons.mpr ⟨lw_p21, List.forall_mem_cons.mpr ⟨lw_p22, List.forall_mem_cons.mpr ⟨lw_p23, List.forall_mem_cons.mpr ⟨lw_p24, List.forall_mem_cons.mpr ⟨lw_p25, List.forall_mem_cons.mpr ⟨lw_p26, List.forall_mem_cons.mpr ⟨lw_p27, List.forall_mem_cons.mpr ⟨lw_p28, List.forall_mem_cons.mpr ⟨lw_p29, List.forall_mem_cons.mpr ⟨lw_p30, List.forall_mem_cons.mpr ⟨lw_p31, fun _ h => absurd h List.not_mem_nil⟩⟩⟩⟩⟩⟩⟩⟩⟩⟩⟩⟩⟩⟩⟩⟩
theorem lw_p32 : lw_okq (⟨"ExchangeHouse$Parser", "branch", "(I)Z"⟩, 6) := ⟨⟨by decide +kernel, by decide +kernel⟩, List.mem_of_getElem? (i := 199) (by decide +kernel), List.mem_of_getElem? (i := 708) (by decide +kernel), List.mem_of_getElem? (i := 709) (by decide +kernel)⟩
theorem lw_p33 : lw_okq (⟨"ExchangeHouse$Parser", "range", "()V"⟩, 6) := ⟨⟨by decide +kernel, by decide +kernel⟩, List.mem_of_getElem? (i := 199) (by decide +kernel), List.mem_of_getElem? (i := 712) (by decide +kernel), List.mem_of_getElem? (i := 713) (by decide +kernel)⟩
theorem lw_p34 : lw_okq (⟨"ExchangeHouse$Parser", "bound", "()I"⟩, 6) := ⟨⟨by decide +kernel, by decide +kernel⟩, List.mem_of_getElem? (i := 199) (by decide +kernel), List.mem_of_getElem? (i := 716) (by decide +kernel), List.mem_of_getElem? (i := 717) (by decide +kernel)⟩
theorem lw_p35 : lw_okq (⟨"ExchangeHouse$Parser", "assignment", "(I)V"⟩, 6) := ⟨⟨by decide +kernel, by decide +kernel⟩, List.mem_of_getElem? (i := 199) (by decide +kernel), List.mem_of_getElem? (i := 720) (by decide +kernel), List.mem_of_getElem? (i := 721) (by decide +kernel)⟩
theorem lw_p36 : lw_okq (⟨"ExchangeHouse$Parser", "arguments", "()I"⟩, 6) := ⟨⟨by decide +kernel, by decide +kernel⟩, List.mem_of_getElem? (i := 199) (by decide +kernel), List.mem_of_getElem? (i := 724) (by decide +kernel), List.mem_of_getElem? (i := 725) (by decide +kernel)⟩
theorem lw_p37 : lw_okq (⟨"ExchangeHouse$Parser", "direction", "(III)V"⟩, 6) := ⟨⟨by decide +kernel, by decide +kernel⟩, List.mem_of_getElem? (i := 199) (by decide +kernel), List.mem_of_getElem? (i := 731) (by decide +kernel), List.mem_of_getElem? (i := 732) (by decide +kernel)⟩
theorem lw_p38 : lw_okq (⟨"ExchangeHouse$Parser", "next", "()V"⟩, 6) := ⟨⟨by decide +kernel, by decide +kernel⟩, List.mem_of_getElem? (i := 199) (by decide +kernel), List.mem_of_getElem? (i := 735) (by decide +kernel), List.mem_of_getElem? (i := 736) (by decide +kernel)⟩
theorem lw_p39 : lw_okq (⟨"ExchangeHouse$Parser", "stating", "()V"⟩, 6) := ⟨⟨by decide +kernel, by decide +kernel⟩, List.mem_of_getElem? (i := 199) (by decide +kernel), List.mem_of_getElem? (i := 739) (by decide +kernel), List.mem_of_getElem? (i := 740) (by decide +kernel)⟩
theorem lw_p40 : lw_okq (⟨"ExchangeHouse$Parser", "stateName", "()V"⟩, 6) := ⟨⟨by decide +kernel, by decide +kernel⟩, List.mem_of_getElem? (i := 199) (by decide +kernel), List.mem_of_getElem? (i := 743) (by decide +kernel), List.mem_of_getElem? (i := 744) (by decide +kernel)⟩
theorem lw_p41 : lw_okq (⟨"ExchangeHouse$Parser", "inputs", "()V"⟩, 6) := ⟨⟨by decide +kernel, by decide +kernel⟩, List.mem_of_getElem? (i := 199) (by decide +kernel), List.mem_of_getElem? (i := 751) (by decide +kernel), List.mem_of_getElem? (i := 752) (by decide +kernel)⟩
theorem lw_p42 : lw_okq (⟨"ExchangeHouse$Parser", "in", "(I)V"⟩, 6) := ⟨⟨by decide +kernel, by decide +kernel⟩, List.mem_of_getElem? (i := 199) (by decide +kernel), List.mem_of_getElem? (i := 765) (by decide +kernel), List.mem_of_getElem? (i := 766) (by decide +kernel)⟩
theorem lw_p43 : lw_okq (⟨"ExchangeHouse$Parser", "condition", "()I"⟩, 6) := ⟨⟨by decide +kernel, by decide +kernel⟩, List.mem_of_getElem? (i := 199) (by decide +kernel), List.mem_of_getElem? (i := 769) (by decide +kernel), List.mem_of_getElem? (i := 770) (by decide +kernel)⟩
theorem lw_p44 : lw_okq (⟨"ExchangeHouse$Parser", "saves", "()V"⟩, 6) := ⟨⟨by decide +kernel, by decide +kernel⟩, List.mem_of_getElem? (i := 199) (by decide +kernel), List.mem_of_getElem? (i := 773) (by decide +kernel), List.mem_of_getElem? (i := 774) (by decide +kernel)⟩
theorem lw_p45 : lw_okq (⟨"ExchangeHouse$Parser", "whens", "()V"⟩, 6) := ⟨⟨by decide +kernel, by decide +kernel⟩, List.mem_of_getElem? (i := 199) (by decide +kernel), List.mem_of_getElem? (i := 777) (by decide +kernel), List.mem_of_getElem? (i := 778) (by decide +kernel)⟩
theorem lw_p46 : lw_okq (⟨"ExchangeHouse$Parser", "byItself", "()V"⟩, 6) := ⟨⟨by decide +kernel, by decide +kernel⟩, List.mem_of_getElem? (i := 199) (by decide +kernel), List.mem_of_getElem? (i := 781) (by decide +kernel), List.mem_of_getElem? (i := 782) (by decide +kernel)⟩
theorem lw_p47 : lw_okq (⟨"ExchangeHouse$Parser", "finish", "()V"⟩, 6) := ⟨⟨by decide +kernel, by decide +kernel⟩, List.mem_of_getElem? (i := 199) (by decide +kernel), List.mem_of_getElem? (i := 785) (by decide +kernel), List.mem_of_getElem? (i := 786) (by decide +kernel)⟩
def lw_privs_3 : List (MethodName × Nat) := [(⟨"ExchangeHouse$Parser", "branch", "(I)Z"⟩, 6), (⟨"ExchangeHouse$Parser", "range", "()V"⟩, 6), (⟨"ExchangeHouse$Parser", "bound", "()I"⟩, 6), (⟨"ExchangeHouse$Parser", "assignment", "(I)V"⟩, 6), (⟨"ExchangeHouse$Parser", "arguments", "()I"⟩, 6), (⟨"ExchangeHouse$Parser", "direction", "(III)V"⟩, 6), (⟨"ExchangeHouse$Parser", "next", "()V"⟩, 6), (⟨"ExchangeHouse$Parser", "stating", "()V"⟩, 6), (⟨"ExchangeHouse$Parser", "stateName", "()V"⟩, 6), (⟨"ExchangeHouse$Parser", "inputs", "()V"⟩, 6), (⟨"ExchangeHouse$Parser", "in", "(I)V"⟩, 6), (⟨"ExchangeHouse$Parser", "condition", "()I"⟩, 6), (⟨"ExchangeHouse$Parser", "saves", "()V"⟩, 6), (⟨"ExchangeHouse$Parser", "whens", "()V"⟩, 6), (⟨"ExchangeHouse$Parser", "byItself", "()V"⟩, 6), (⟨"ExchangeHouse$Parser", "finish", "()V"⟩, 6)]
theorem lw_r3 : ∀ q ∈ lw_privs_3, lw_okq q := List.forall_mem_cons.mpr ⟨lw_p32, List.forall_mem_cons.mpr ⟨lw_p33, List.forall_mem_cons.mpr ⟨lw_p34, List.forall_mem_cons.mpr ⟨lw_p35, List.forall_mem_cons.mpr ⟨lw_p36, List.forall_mem_cons.mpr ⟨lw_p37, List.forall_mem_cons.mpr ⟨lw_p38, List.forall_mem_cons.mpr ⟨lw_p39, List.forall_mem_cons.mpr ⟨lw_p40, List.forall_mem_cons.mpr ⟨lw_p41, List.forall_mem_cons.mpr ⟨lw_p42, List.forall_mem_cons.mpr ⟨lw_p43, List.forall_mem_cons.mpr ⟨lw_p44, List.forall_mem_cons.mpr ⟨lw_p45, List.forall_mem_cons.mpr ⟨lw_p46, List.forall_mem_cons.mpr ⟨lw_p47, fun _ h => absurd h List.not_mem_nil⟩⟩⟩⟩⟩⟩⟩⟩⟩⟩⟩⟩⟩⟩⟩⟩
theorem lw_p48 : lw_okq (⟨"ExchangeHouse$Judge", "askNamesOf", "(LExchangeHouse$Kind;)V"⟩, 10) := ⟨⟨by decide +kernel, by decide +kernel⟩, List.mem_of_getElem? (i := 344) (by decide +kernel), List.mem_of_getElem? (i := 793) (by decide +kernel), List.mem_of_getElem? (i := 794) (by decide +kernel)⟩
theorem lw_p49 : lw_okq (⟨"ExchangeHouse$Judge", "askTold", "(LExchangeHouse$Names;)V"⟩, 10) := ⟨⟨by decide +kernel, by decide +kernel⟩, List.mem_of_getElem? (i := 344) (by decide +kernel), List.mem_of_getElem? (i := 807) (by decide +kernel), List.mem_of_getElem? (i := 808) (by decide +kernel)⟩
theorem lw_p50 : lw_okq (⟨"ExchangeHouse$Judge", "askRoute", "(I)V"⟩, 10) := ⟨⟨by decide +kernel, by decide +kernel⟩, List.mem_of_getElem? (i := 344) (by decide +kernel), List.mem_of_getElem? (i := 811) (by decide +kernel), List.mem_of_getElem? (i := 812) (by decide +kernel)⟩
theorem lw_p51 : lw_okq (⟨"ExchangeHouse$Judge", "find", "(LExchangeHouse$Names;I)I"⟩, 10) := ⟨⟨by decide +kernel, by decide +kernel⟩, List.mem_of_getElem? (i := 344) (by decide +kernel), List.mem_of_getElem? (i := 815) (by decide +kernel), List.mem_of_getElem? (i := 816) (by decide +kernel)⟩
theorem lw_p52 : lw_okq (⟨"ExchangeHouse$Judge", "blame", "(II)V"⟩, 10) := ⟨⟨by decide +kernel, by decide +kernel⟩, List.mem_of_getElem? (i := 344) (by decide +kernel), List.mem_of_getElem? (i := 819) (by decide +kernel), List.mem_of_getElem? (i := 820) (by decide +kernel)⟩
theorem lw_p53 : lw_okq (⟨"ExchangeHouse$Judge", "askOperand", "(I)V"⟩, 10) := ⟨⟨by decide +kernel, by decide +kernel⟩, List.mem_of_getElem? (i := 344) (by decide +kernel), List.mem_of_getElem? (i := 823) (by decide +kernel), List.mem_of_getElem? (i := 824) (by decide +kernel)⟩
theorem lw_p54 : lw_okq (⟨"ExchangeHouse$Judge", "findVariable", "(IZ)I"⟩, 10) := ⟨⟨by decide +kernel, by decide +kernel⟩, List.mem_of_getElem? (i := 344) (by decide +kernel), List.mem_of_getElem? (i := 827) (by decide +kernel), List.mem_of_getElem? (i := 828) (by decide +kernel)⟩
theorem lw_p55 : lw_okq (⟨"ExchangeHouse$Judge", "push", "(II)V"⟩, 10) := ⟨⟨by decide +kernel, by decide +kernel⟩, List.mem_of_getElem? (i := 344) (by decide +kernel), List.mem_of_getElem? (i := 831) (by decide +kernel), List.mem_of_getElem? (i := 832) (by decide +kernel)⟩
theorem lw_p56 : lw_okq (⟨"ExchangeHouse$Judge", "askOperator", "(I)V"⟩, 10) := ⟨⟨by decide +kernel, by decide +kernel⟩, List.mem_of_getElem? (i := 344) (by decide +kernel), List.mem_of_getElem? (i := 836) (by decide +kernel), List.mem_of_getElem? (i := 837) (by decide +kernel)⟩
theorem lw_p57 : lw_okq (⟨"ExchangeHouse$Judge", "pops", "(I)Z"⟩, 10) := ⟨⟨by decide +kernel, by decide +kernel⟩, List.mem_of_getElem? (i := 344) (by decide +kernel), List.mem_of_getElem? (i := 840) (by decide +kernel), List.mem_of_getElem? (i := 841) (by decide +kernel)⟩
theorem lw_p58 : lw_okq (⟨"ExchangeHouse$Judge", "setCells", "(II)V"⟩, 10) := ⟨⟨by decide +kernel, by decide +kernel⟩, List.mem_of_getElem? (i := 344) (by decide +kernel), List.mem_of_getElem? (i := 844) (by decide +kernel), List.mem_of_getElem? (i := 845) (by decide +kernel)⟩
theorem lw_p59 : lw_okq (⟨"ExchangeHouse$Judge", "askBinary", "(I)V"⟩, 10) := ⟨⟨by decide +kernel, by decide +kernel⟩, List.mem_of_getElem? (i := 344) (by decide +kernel), List.mem_of_getElem? (i := 848) (by decide +kernel), List.mem_of_getElem? (i := 849) (by decide +kernel)⟩
theorem lw_p60 : lw_okq (⟨"ExchangeHouse$Judge", "askStimulus", "(I)V"⟩, 10) := ⟨⟨by decide +kernel, by decide +kernel⟩, List.mem_of_getElem? (i := 344) (by decide +kernel), List.mem_of_getElem? (i := 852) (by decide +kernel), List.mem_of_getElem? (i := 853) (by decide +kernel)⟩
theorem lw_p61 : lw_okq (⟨"ExchangeHouse$Judge", "askInto", "(II)V"⟩, 10) := ⟨⟨by decide +kernel, by decide +kernel⟩, List.mem_of_getElem? (i := 344) (by decide +kernel), List.mem_of_getElem? (i := 856) (by decide +kernel), List.mem_of_getElem? (i := 857) (by decide +kernel)⟩
theorem lw_p62 : lw_okq (⟨"ExchangeHouse$Judge", "enter", "(II)V"⟩, 10) := ⟨⟨by decide +kernel, by decide +kernel⟩, List.mem_of_getElem? (i := 344) (by decide +kernel), List.mem_of_getElem? (i := 860) (by decide +kernel), List.mem_of_getElem? (i := 861) (by decide +kernel)⟩
theorem lw_p63 : lw_okq (⟨"ExchangeHouse$Judge", "askAct", "(I)V"⟩, 10) := ⟨⟨by decide +kernel, by decide +kernel⟩, List.mem_of_getElem? (i := 344) (by decide +kernel), List.mem_of_getElem? (i := 871) (by decide +kernel), List.mem_of_getElem? (i := 872) (by decide +kernel)⟩
def lw_privs_4 : List (MethodName × Nat) := [(⟨"ExchangeHouse$Judge", "askNamesOf", "(LExchangeHouse$Kind;)V"⟩, 10), (⟨"ExchangeHouse$Judge", "askTold", "(LExchangeHouse$Names;)V"⟩, 10), (⟨"ExchangeHouse$Judge", "askRoute", "(I)V"⟩, 10), (⟨"ExchangeHouse$Judge", "find", "(LExchangeHouse$Names;I)I"⟩, 10), (⟨"ExchangeHouse$Judge", "blame", "(II)V"⟩, 10), (⟨"ExchangeHouse$Judge", "askOperand", "(I)V"⟩, 10), (⟨"ExchangeHouse$Judge", "findVariable", "(IZ)I"⟩, 10), (⟨"ExchangeHouse$Judge", "push", "(II)V"⟩, 10), (⟨"ExchangeHouse$Judge", "askOperator", "(I)V"⟩, 10), (⟨"ExchangeHouse$Judge", "pops", "(I)Z"⟩, 10), (⟨"ExchangeHouse$Judge", "setCells", "(II)V"⟩, 10), (⟨"ExchangeHouse$Judge", "askBinary", "(I)V"⟩, 10), (⟨"ExchangeHouse$Judge", "askStimulus", "(I)V"⟩, 10), (⟨"ExchangeHouse$Judge", "askInto", "(II)V"⟩, 10), (⟨"ExchangeHouse$Judge", "enter", "(II)V"⟩, 10), (⟨"ExchangeHouse$Judge", "askAct", "(I)V"⟩, 10)]
theorem lw_r4 : ∀ q ∈ lw_privs_4, lw_okq q := List.forall_mem_cons.mpr ⟨lw_p48, List.forall_mem_cons.mpr ⟨lw_p49, List.forall_mem_cons.mpr ⟨lw_p50, List.forall_mem_cons.mpr ⟨lw_p51, List.forall_mem_cons.mpr ⟨lw_p52, List.forall_mem_cons.mpr ⟨lw_p53, List.forall_mem_cons.mpr ⟨lw_p54, List.forall_mem_cons.mpr ⟨lw_p55, List.forall_mem_cons.mpr ⟨lw_p56, List.forall_mem_cons.mpr ⟨lw_p57, List.forall_mem_cons.mpr ⟨lw_p58, List.forall_mem_cons.mpr ⟨lw_p59, List.forall_mem_cons.mpr ⟨lw_p60, List.forall_mem_cons.mpr ⟨lw_p61, List.forall_mem_cons.mpr ⟨lw_p62, List.forall_mem_cons.mpr ⟨lw_p63, fun _ h => absurd h List.not_mem_nil⟩⟩⟩⟩⟩⟩⟩⟩⟩⟩⟩⟩⟩⟩⟩⟩
theorem lw_p64 : lw_okq (⟨"ExchangeHouse$Judge", "askOutput", "(II)V"⟩, 10) := ⟨⟨by decide +kernel, by decide +kernel⟩, List.mem_of_getElem? (i := 344) (by decide +kernel), List.mem_of_getElem? (i := 875) (by decide +kernel), List.mem_of_getElem? (i := 876) (by decide +kernel)⟩
theorem lw_p65 : lw_okq (⟨"ExchangeHouse$Judge", "askVia", "(II)V"⟩, 10) := ⟨⟨by decide +kernel, by decide +kernel⟩, List.mem_of_getElem? (i := 344) (by decide +kernel), List.mem_of_getElem? (i := 879) (by decide +kernel), List.mem_of_getElem? (i := 880) (by decide +kernel)⟩
theorem lw_p66 : lw_okq (⟨"ExchangeHouse$Judge", "askCreate", "(II)V"⟩, 10) := ⟨⟨by decide +kernel, by decide +kernel⟩, List.mem_of_getElem? (i := 344) (by decide +kernel), List.mem_of_getElem? (i := 883) (by decide +kernel), List.mem_of_getElem? (i := 884) (by decide +kernel)⟩
theorem lw_p67 : lw_okq (⟨"ExchangeHouse$Judge", "askDecide", "()V"⟩, 10) := ⟨⟨by decide +kernel, by decide +kernel⟩, List.mem_of_getElem? (i := 344) (by decide +kernel), List.mem_of_getElem? (i := 887) (by decide +kernel), List.mem_of_getElem? (i := 888) (by decide +kernel)⟩
theorem lw_p68 : lw_okq (⟨"ExchangeHouse$Judge", "askOther", "(I)V"⟩, 10) := ⟨⟨by decide +kernel, by decide +kernel⟩, List.mem_of_getElem? (i := 344) (by decide +kernel), List.mem_of_getElem? (i := 891) (by decide +kernel), List.mem_of_getElem? (i := 892) (by decide +kernel)⟩
theorem lw_p69 : lw_okq (⟨"ExchangeHouse$Judge", "askRange", "(I)V"⟩, 10) := ⟨⟨by decide +kernel, by decide +kernel⟩, List.mem_of_getElem? (i := 344) (by decide +kernel), List.mem_of_getElem? (i := 895) (by decide +kernel), List.mem_of_getElem? (i := 896) (by decide +kernel)⟩
theorem lw_p70 : lw_okq (⟨"ExchangeHouse$Judge", "warnOfAll", "(LExchangeHouse$Names;II)V"⟩, 10) := ⟨⟨by decide +kernel, by decide +kernel⟩, List.mem_of_getElem? (i := 344) (by decide +kernel), List.mem_of_getElem? (i := 911) (by decide +kernel), List.mem_of_getElem? (i := 912) (by decide +kernel)⟩
theorem lw_p71 : lw_okq (⟨"ExchangeHouse$Judge", "addWarning", "(II)V"⟩, 10) := ⟨⟨by decide +kernel, by decide +kernel⟩, List.mem_of_getElem? (i := 344) (by decide +kernel), List.mem_of_getElem? (i := 915) (by decide +kernel), List.mem_of_getElem? (i := 916) (by decide +kernel)⟩
theorem lw_p72 : lw_okq (⟨"ExchangeHouse$Judge", "warnOfType", "(LExchangeHouse$Kind;)V"⟩, 10) := ⟨⟨by decide +kernel, by decide +kernel⟩, List.mem_of_getElem? (i := 344) (by decide +kernel), List.mem_of_getElem? (i := 922) (by decide +kernel), List.mem_of_getElem? (i := 923) (by decide +kernel)⟩
theorem lw_p73 : lw_okq (⟨"ExchangeHouse$Judge", "holdsLabel", "(LExchangeHouse$Kind;II)Z"⟩, 10) := ⟨⟨by decide +kernel, by decide +kernel⟩, List.mem_of_getElem? (i := 344) (by decide +kernel), List.mem_of_getElem? (i := 926) (by decide +kernel), List.mem_of_getElem? (i := 927) (by decide +kernel)⟩
theorem lw_p74 : lw_okq (⟨"ExchangeHouse$Judge", "joinsOf", "(LExchangeHouse$Kind;)I"⟩, 10) := ⟨⟨by decide +kernel, by decide +kernel⟩, List.mem_of_getElem? (i := 344) (by decide +kernel), List.mem_of_getElem? (i := 930) (by decide +kernel), List.mem_of_getElem? (i := 931) (by decide +kernel)⟩
theorem lw_p75 : lw_okq (⟨"ExchangeHouse$Runner", "bringDue", "()V"⟩, 16) := ⟨⟨by decide +kernel, by decide +kernel⟩, List.mem_of_getElem? (i := 946) (by decide +kernel), List.mem_of_getElem? (i := 1264) (by decide +kernel), List.mem_of_getElem? (i := 1265) (by decide +kernel)⟩
theorem lw_p76 : lw_okq (⟨"ExchangeHouse$Runner", "arrive", "()V"⟩, 16) := ⟨⟨by decide +kernel, by decide +kernel⟩, List.mem_of_getElem? (i := 946) (by decide +kernel), List.mem_of_getElem? (i := 1283) (by decide +kernel), List.mem_of_getElem? (i := 1284) (by decide +kernel)⟩
theorem lw_p77 : lw_okq (⟨"ExchangeHouse$Runner", "nextReady", "()I"⟩, 16) := ⟨⟨by decide +kernel, by decide +kernel⟩, List.mem_of_getElem? (i := 946) (by decide +kernel), List.mem_of_getElem? (i := 1305) (by decide +kernel), List.mem_of_getElem? (i := 1306) (by decide +kernel)⟩
theorem lw_p78 : lw_okq (⟨"ExchangeHouse$Runner", "holds", "(II)Z"⟩, 16) := ⟨⟨by decide +kernel, by decide +kernel⟩, List.mem_of_getElem? (i := 946) (by decide +kernel), List.mem_of_getElem? (i := 1322) (by decide +kernel), List.mem_of_getElem? (i := 1323) (by decide +kernel)⟩
theorem lw_p79 : lw_okq (⟨"ExchangeHouse$Runner", "evaluate", "(II)I"⟩, 16) := ⟨⟨by decide +kernel, by decide +kernel⟩, List.mem_of_getElem? (i := 946) (by decide +kernel), List.mem_of_getElem? (i := 1326) (by decide +kernel), List.mem_of_getElem? (i := 1327) (by decide +kernel)⟩
def lw_privs_5 : List (MethodName × Nat) := [(⟨"ExchangeHouse$Judge", "askOutput", "(II)V"⟩, 10), (⟨"ExchangeHouse$Judge", "askVia", "(II)V"⟩, 10), (⟨"ExchangeHouse$Judge", "askCreate", "(II)V"⟩, 10), (⟨"ExchangeHouse$Judge", "askDecide", "()V"⟩, 10), (⟨"ExchangeHouse$Judge", "askOther", "(I)V"⟩, 10), (⟨"ExchangeHouse$Judge", "askRange", "(I)V"⟩, 10), (⟨"ExchangeHouse$Judge", "warnOfAll", "(LExchangeHouse$Names;II)V"⟩, 10), (⟨"ExchangeHouse$Judge", "addWarning", "(II)V"⟩, 10), (⟨"ExchangeHouse$Judge", "warnOfType", "(LExchangeHouse$Kind;)V"⟩, 10), (⟨"ExchangeHouse$Judge", "holdsLabel", "(LExchangeHouse$Kind;II)Z"⟩, 10), (⟨"ExchangeHouse$Judge", "joinsOf", "(LExchangeHouse$Kind;)I"⟩, 10), (⟨"ExchangeHouse$Runner", "bringDue", "()V"⟩, 16), (⟨"ExchangeHouse$Runner", "arrive", "()V"⟩, 16), (⟨"ExchangeHouse$Runner", "nextReady", "()I"⟩, 16), (⟨"ExchangeHouse$Runner", "holds", "(II)Z"⟩, 16), (⟨"ExchangeHouse$Runner", "evaluate", "(II)I"⟩, 16)]
theorem lw_r5 : ∀ q ∈ lw_privs_5, lw_okq q := List.forall_mem_cons.mpr ⟨lw_p64, List.forall_mem_cons.mpr ⟨lw_p65, List.forall_mem_cons.mpr ⟨lw_p66, List.forall_mem_cons.mpr ⟨lw_p67, List.forall_mem_cons.mpr ⟨lw_p68, List.forall_mem_cons.mpr ⟨lw_p69, List.forall_mem_cons.mpr ⟨lw_p70, List.forall_mem_cons.mpr ⟨lw_p71, List.forall_mem_cons.mpr ⟨lw_p72, List.forall_mem_cons.mpr ⟨lw_p73, List.forall_mem_cons.mpr ⟨lw_p74, List.forall_mem_cons.mpr ⟨lw_p75, List.forall_mem_cons.mpr ⟨lw_p76, List.forall_mem_cons.mpr ⟨lw_p77, List.forall_mem_cons.mpr ⟨lw_p78, List.forall_mem_cons.mpr ⟨lw_p79, fun _ h => absurd h List.not_mem_nil⟩⟩⟩⟩⟩⟩⟩⟩⟩⟩⟩⟩⟩⟩⟩⟩
theorem lw_p80 : lw_okq (⟨"ExchangeHouse$Runner", "operand", "(III)I"⟩, 16) := ⟨⟨by decide +kernel, by decide +kernel⟩, List.mem_of_getElem? (i := 946) (by decide +kernel), List.mem_of_getElem? (i := 1330) (by decide +kernel), List.mem_of_getElem? (i := 1331) (by decide +kernel)⟩
theorem lw_p81 : lw_okq (⟨"ExchangeHouse$Runner", "push", "(I)V"⟩, 16) := ⟨⟨by decide +kernel, by decide +kernel⟩, List.mem_of_getElem? (i := 946) (by decide +kernel), List.mem_of_getElem? (i := 1338) (by decide +kernel), List.mem_of_getElem? (i := 1339) (by decide +kernel)⟩
theorem lw_p82 : lw_okq (⟨"ExchangeHouse$Runner", "pop", "()I"⟩, 16) := ⟨⟨by decide +kernel, by decide +kernel⟩, List.mem_of_getElem? (i := 946) (by decide +kernel), List.mem_of_getElem? (i := 1342) (by decide +kernel), List.mem_of_getElem? (i := 1343) (by decide +kernel)⟩
theorem lw_p83 : lw_okq (⟨"ExchangeHouse$Runner", "combine", "(III)I"⟩, 16) := ⟨⟨by decide +kernel, by decide +kernel⟩, List.mem_of_getElem? (i := 946) (by decide +kernel), List.mem_of_getElem? (i := 1347) (by decide +kernel), List.mem_of_getElem? (i := 1348) (by decide +kernel)⟩
theorem lw_p84 : lw_okq (⟨"ExchangeHouse$Runner", "change", "(III)I"⟩, 16) := ⟨⟨by decide +kernel, by decide +kernel⟩, List.mem_of_getElem? (i := 946) (by decide +kernel), List.mem_of_getElem? (i := 1351) (by decide +kernel), List.mem_of_getElem? (i := 1352) (by decide +kernel)⟩
theorem lw_p85 : lw_okq (⟨"ExchangeHouse$Runner", "bound", "(II)I"⟩, 16) := ⟨⟨by decide +kernel, by decide +kernel⟩, List.mem_of_getElem? (i := 946) (by decide +kernel), List.mem_of_getElem? (i := 1355) (by decide +kernel), List.mem_of_getElem? (i := 1356) (by decide +kernel)⟩
theorem lw_p86 : lw_okq (⟨"ExchangeHouse$Runner", "isBetter", "(I)Z"⟩, 16) := ⟨⟨by decide +kernel, by decide +kernel⟩, List.mem_of_getElem? (i := 946) (by decide +kernel), List.mem_of_getElem? (i := 1363) (by decide +kernel), List.mem_of_getElem? (i := 1364) (by decide +kernel)⟩
theorem lw_p87 : lw_okq (⟨"ExchangeHouse$Runner", "takeTurn", "(I)V"⟩, 16) := ⟨⟨by decide +kernel, by decide +kernel⟩, List.mem_of_getElem? (i := 946) (by decide +kernel), List.mem_of_getElem? (i := 1367) (by decide +kernel), List.mem_of_getElem? (i := 1368) (by decide +kernel)⟩
theorem lw_p88 : lw_okq (⟨"ExchangeHouse$Net", "remove", "(II)V"⟩, 17) := ⟨⟨by decide +kernel, by decide +kernel⟩, List.mem_of_getElem? (i := 1015) (by decide +kernel), List.mem_of_getElem? (i := 1379) (by decide +kernel), List.mem_of_getElem? (i := 1380) (by decide +kernel)⟩
theorem lw_p89 : lw_okq (⟨"ExchangeHouse$Runner", "keepValues", "(I)V"⟩, 16) := ⟨⟨by decide +kernel, by decide +kernel⟩, List.mem_of_getElem? (i := 946) (by decide +kernel), List.mem_of_getElem? (i := 1383) (by decide +kernel), List.mem_of_getElem? (i := 1384) (by decide +kernel)⟩
theorem lw_p90 : lw_okq (⟨"ExchangeHouse$Runner", "perform", "(II)V"⟩, 16) := ⟨⟨by decide +kernel, by decide +kernel⟩, List.mem_of_getElem? (i := 946) (by decide +kernel), List.mem_of_getElem? (i := 1387) (by decide +kernel), List.mem_of_getElem? (i := 1388) (by decide +kernel)⟩
theorem lw_p91 : lw_okq (⟨"ExchangeHouse$Runner", "act", "(II)I"⟩, 16) := ⟨⟨by decide +kernel, by decide +kernel⟩, List.mem_of_getElem? (i := 946) (by decide +kernel), List.mem_of_getElem? (i := 1391) (by decide +kernel), List.mem_of_getElem? (i := 1392) (by decide +kernel)⟩
theorem lw_p92 : lw_okq (⟨"ExchangeHouse$Runner", "address", "(II)V"⟩, 16) := ⟨⟨by decide +kernel, by decide +kernel⟩, List.mem_of_getElem? (i := 946) (by decide +kernel), List.mem_of_getElem? (i := 1395) (by decide +kernel), List.mem_of_getElem? (i := 1396) (by decide +kernel)⟩
theorem lw_p93 : lw_okq (⟨"ExchangeHouse$Runner", "fill", "(IIII)V"⟩, 16) := ⟨⟨by decide +kernel, by decide +kernel⟩, List.mem_of_getElem? (i := 946) (by decide +kernel), List.mem_of_getElem? (i := 1407) (by decide +kernel), List.mem_of_getElem? (i := 1408) (by decide +kernel)⟩
theorem lw_p94 : lw_okq (⟨"ExchangeHouse$Runner", "create", "(III)V"⟩, 16) := ⟨⟨by decide +kernel, by decide +kernel⟩, List.mem_of_getElem? (i := 946) (by decide +kernel), List.mem_of_getElem? (i := 1422) (by decide +kernel), List.mem_of_getElem? (i := 1423) (by decide +kernel)⟩
theorem lw_p95 : lw_okq (⟨"ExchangeHouse$Runner", "halt", "(I)V"⟩, 16) := ⟨⟨by decide +kernel, by decide +kernel⟩, List.mem_of_getElem? (i := 946) (by decide +kernel), List.mem_of_getElem? (i := 1430) (by decide +kernel), List.mem_of_getElem? (i := 1431) (by decide +kernel)⟩
def lw_privs_6 : List (MethodName × Nat) := [(⟨"ExchangeHouse$Runner", "operand", "(III)I"⟩, 16), (⟨"ExchangeHouse$Runner", "push", "(I)V"⟩, 16), (⟨"ExchangeHouse$Runner", "pop", "()I"⟩, 16), (⟨"ExchangeHouse$Runner", "combine", "(III)I"⟩, 16), (⟨"ExchangeHouse$Runner", "change", "(III)I"⟩, 16), (⟨"ExchangeHouse$Runner", "bound", "(II)I"⟩, 16), (⟨"ExchangeHouse$Runner", "isBetter", "(I)Z"⟩, 16), (⟨"ExchangeHouse$Runner", "takeTurn", "(I)V"⟩, 16), (⟨"ExchangeHouse$Net", "remove", "(II)V"⟩, 17), (⟨"ExchangeHouse$Runner", "keepValues", "(I)V"⟩, 16), (⟨"ExchangeHouse$Runner", "perform", "(II)V"⟩, 16), (⟨"ExchangeHouse$Runner", "act", "(II)I"⟩, 16), (⟨"ExchangeHouse$Runner", "address", "(II)V"⟩, 16), (⟨"ExchangeHouse$Runner", "fill", "(IIII)V"⟩, 16), (⟨"ExchangeHouse$Runner", "create", "(III)V"⟩, 16), (⟨"ExchangeHouse$Runner", "halt", "(I)V"⟩, 16)]
theorem lw_r6 : ∀ q ∈ lw_privs_6, lw_okq q := List.forall_mem_cons.mpr ⟨lw_p80, List.forall_mem_cons.mpr ⟨lw_p81, List.forall_mem_cons.mpr ⟨lw_p82, List.forall_mem_cons.mpr ⟨lw_p83, List.forall_mem_cons.mpr ⟨lw_p84, List.forall_mem_cons.mpr ⟨lw_p85, List.forall_mem_cons.mpr ⟨lw_p86, List.forall_mem_cons.mpr ⟨lw_p87, List.forall_mem_cons.mpr ⟨lw_p88, List.forall_mem_cons.mpr ⟨lw_p89, List.forall_mem_cons.mpr ⟨lw_p90, List.forall_mem_cons.mpr ⟨lw_p91, List.forall_mem_cons.mpr ⟨lw_p92, List.forall_mem_cons.mpr ⟨lw_p93, List.forall_mem_cons.mpr ⟨lw_p94, List.forall_mem_cons.mpr ⟨lw_p95, fun _ h => absurd h List.not_mem_nil⟩⟩⟩⟩⟩⟩⟩⟩⟩⟩⟩⟩⟩⟩⟩⟩
theorem lw_p96 : lw_okq (⟨"ExchangeHouse$Runner", "send", "(I)V"⟩, 16) := ⟨⟨by decide +kernel, by decide +kernel⟩, List.mem_of_getElem? (i := 946) (by decide +kernel), List.mem_of_getElem? (i := 1438) (by decide +kernel), List.mem_of_getElem? (i := 1439) (by decide +kernel)⟩
theorem lw_p97 : lw_okq (⟨"ExchangeHouse$Runner", "delay", "(I)I"⟩, 16) := ⟨⟨by decide +kernel, by decide +kernel⟩, List.mem_of_getElem? (i := 946) (by decide +kernel), List.mem_of_getElem? (i := 1442) (by decide +kernel), List.mem_of_getElem? (i := 1443) (by decide +kernel)⟩
theorem lw_p98 : lw_okq (⟨"ExchangeHouse$Runner", "fail", "(I)V"⟩, 16) := ⟨⟨by decide +kernel, by decide +kernel⟩, List.mem_of_getElem? (i := 946) (by decide +kernel), List.mem_of_getElem? (i := 1452) (by decide +kernel), List.mem_of_getElem? (i := 1453) (by decide +kernel)⟩
theorem lw_p99 : lw_okq (⟨"ExchangeHouse$Runner", "valued", "(III)I"⟩, 16) := ⟨⟨by decide +kernel, by decide +kernel⟩, List.mem_of_getElem? (i := 946) (by decide +kernel), List.mem_of_getElem? (i := 1497) (by decide +kernel), List.mem_of_getElem? (i := 1498) (by decide +kernel)⟩
theorem lw_p100 : lw_okq (⟨"ExchangeHouse", "slot", "(I)I"⟩, 12) := ⟨⟨by decide +kernel, by decide +kernel⟩, List.mem_of_getElem? (i := 22) (by decide +kernel), List.mem_of_getElem? (i := 1509) (by decide +kernel), List.mem_of_getElem? (i := 1510) (by decide +kernel)⟩
theorem lw_p101 : lw_okq (⟨"ExchangeHouse", "systemCount", "(I)I"⟩, 12) := ⟨⟨by decide +kernel, by decide +kernel⟩, List.mem_of_getElem? (i := 22) (by decide +kernel), List.mem_of_getElem? (i := 1552) (by decide +kernel), List.mem_of_getElem? (i := 1553) (by decide +kernel)⟩
theorem lw_p102 : lw_okq (⟨"ExchangeHouse", "runCount", "(I)I"⟩, 12) := ⟨⟨by decide +kernel, by decide +kernel⟩, List.mem_of_getElem? (i := 22) (by decide +kernel), List.mem_of_getElem? (i := 1556) (by decide +kernel), List.mem_of_getElem? (i := 1557) (by decide +kernel)⟩
theorem lw_p103 : lw_okq (⟨"ExchangeHouse$Seeker", "makeRoom", "()V"⟩, 18) := ⟨⟨by decide +kernel, by decide +kernel⟩, List.mem_of_getElem? (i := 1165) (by decide +kernel), List.mem_of_getElem? (i := 1581) (by decide +kernel), List.mem_of_getElem? (i := 1582) (by decide +kernel)⟩
theorem lw_p104 : lw_okq (⟨"ExchangeHouse$Net", "packOne", "(II[II)I"⟩, 17) := ⟨⟨by decide +kernel, by decide +kernel⟩, List.mem_of_getElem? (i := 1015) (by decide +kernel), List.mem_of_getElem? (i := 1604) (by decide +kernel), List.mem_of_getElem? (i := 1605) (by decide +kernel)⟩
theorem lw_p105 : lw_okq (⟨"ExchangeHouse$Seeker", "keep", "(III)V"⟩, 18) := ⟨⟨by decide +kernel, by decide +kernel⟩, List.mem_of_getElem? (i := 1165) (by decide +kernel), List.mem_of_getElem? (i := 1608) (by decide +kernel), List.mem_of_getElem? (i := 1609) (by decide +kernel)⟩
theorem lw_p106 : lw_okq (⟨"ExchangeHouse$Seeker", "hashOf", "(II)I"⟩, 18) := ⟨⟨by decide +kernel, by decide +kernel⟩, List.mem_of_getElem? (i := 1165) (by decide +kernel), List.mem_of_getElem? (i := 1612) (by decide +kernel), List.mem_of_getElem? (i := 1613) (by decide +kernel)⟩
theorem lw_p107 : lw_okq (⟨"ExchangeHouse$Seeker", "goThrough", "(I)V"⟩, 18) := ⟨⟨by decide +kernel, by decide +kernel⟩, List.mem_of_getElem? (i := 1165) (by decide +kernel), List.mem_of_getElem? (i := 1616) (by decide +kernel), List.mem_of_getElem? (i := 1617) (by decide +kernel)⟩
theorem lw_p108 : lw_okq (⟨"ExchangeHouse$Net", "unpackOne", "(ILExchangeHouse$Plan;[II)I"⟩, 17) := ⟨⟨by decide +kernel, by decide +kernel⟩, List.mem_of_getElem? (i := 1015) (by decide +kernel), List.mem_of_getElem? (i := 1624) (by decide +kernel), List.mem_of_getElem? (i := 1625) (by decide +kernel)⟩
theorem lw_p109 : lw_okq (⟨"ExchangeHouse$Seeker", "look", "(I)V"⟩, 18) := ⟨⟨by decide +kernel, by decide +kernel⟩, List.mem_of_getElem? (i := 1165) (by decide +kernel), List.mem_of_getElem? (i := 1630) (by decide +kernel), List.mem_of_getElem? (i := 1631) (by decide +kernel)⟩
theorem lw_p110 : lw_okq (⟨"ExchangeHouse$Seeker", "isKnown", "(I)Z"⟩, 18) := ⟨⟨by decide +kernel, by decide +kernel⟩, List.mem_of_getElem? (i := 1165) (by decide +kernel), List.mem_of_getElem? (i := 1635) (by decide +kernel), List.mem_of_getElem? (i := 1636) (by decide +kernel)⟩
theorem lw_p111 : lw_okq (⟨"ExchangeHouse$Seeker", "isLike", "(III)Z"⟩, 18) := ⟨⟨by decide +kernel, by decide +kernel⟩, List.mem_of_getElem? (i := 1165) (by decide +kernel), List.mem_of_getElem? (i := 1639) (by decide +kernel), List.mem_of_getElem? (i := 1640) (by decide +kernel)⟩
def lw_privs_7 : List (MethodName × Nat) := [(⟨"ExchangeHouse$Runner", "send", "(I)V"⟩, 16), (⟨"ExchangeHouse$Runner", "delay", "(I)I"⟩, 16), (⟨"ExchangeHouse$Runner", "fail", "(I)V"⟩, 16), (⟨"ExchangeHouse$Runner", "valued", "(III)I"⟩, 16), (⟨"ExchangeHouse", "slot", "(I)I"⟩, 12), (⟨"ExchangeHouse", "systemCount", "(I)I"⟩, 12), (⟨"ExchangeHouse", "runCount", "(I)I"⟩, 12), (⟨"ExchangeHouse$Seeker", "makeRoom", "()V"⟩, 18), (⟨"ExchangeHouse$Net", "packOne", "(II[II)I"⟩, 17), (⟨"ExchangeHouse$Seeker", "keep", "(III)V"⟩, 18), (⟨"ExchangeHouse$Seeker", "hashOf", "(II)I"⟩, 18), (⟨"ExchangeHouse$Seeker", "goThrough", "(I)V"⟩, 18), (⟨"ExchangeHouse$Net", "unpackOne", "(ILExchangeHouse$Plan;[II)I"⟩, 17), (⟨"ExchangeHouse$Seeker", "look", "(I)V"⟩, 18), (⟨"ExchangeHouse$Seeker", "isKnown", "(I)Z"⟩, 18), (⟨"ExchangeHouse$Seeker", "isLike", "(III)Z"⟩, 18)]
theorem lw_r7 : ∀ q ∈ lw_privs_7, lw_okq q := List.forall_mem_cons.mpr ⟨lw_p96, List.forall_mem_cons.mpr ⟨lw_p97, List.forall_mem_cons.mpr ⟨lw_p98, List.forall_mem_cons.mpr ⟨lw_p99, List.forall_mem_cons.mpr ⟨lw_p100, List.forall_mem_cons.mpr ⟨lw_p101, List.forall_mem_cons.mpr ⟨lw_p102, List.forall_mem_cons.mpr ⟨lw_p103, List.forall_mem_cons.mpr ⟨lw_p104, List.forall_mem_cons.mpr ⟨lw_p105, List.forall_mem_cons.mpr ⟨lw_p106, List.forall_mem_cons.mpr ⟨lw_p107, List.forall_mem_cons.mpr ⟨lw_p108, List.forall_mem_cons.mpr ⟨lw_p109, List.forall_mem_cons.mpr ⟨lw_p110, List.forall_mem_cons.mpr ⟨lw_p111, fun _ h => absurd h List.not_mem_nil⟩⟩⟩⟩⟩⟩⟩⟩⟩⟩⟩⟩⟩⟩⟩⟩
theorem lw_p112 : lw_okq (⟨"ExchangeHouse$Seeker", "stirAll", "(I)V"⟩, 18) := ⟨⟨by decide +kernel, by decide +kernel⟩, List.mem_of_getElem? (i := 1165) (by decide +kernel), List.mem_of_getElem? (i := 1645) (by decide +kernel), List.mem_of_getElem? (i := 1646) (by decide +kernel)⟩
theorem lw_p113 : lw_okq (⟨"ExchangeHouse$Seeker", "answers", "(IIII)Z"⟩, 18) := ⟨⟨by decide +kernel, by decide +kernel⟩, List.mem_of_getElem? (i := 1165) (by decide +kernel), List.mem_of_getElem? (i := 1667) (by decide +kernel), List.mem_of_getElem? (i := 1668) (by decide +kernel)⟩
theorem lw_p114 : lw_okq (⟨"ExchangeHouse$Seeker", "hasQueued", "(I)Z"⟩, 18) := ⟨⟨by decide +kernel, by decide +kernel⟩, List.mem_of_getElem? (i := 1165) (by decide +kernel), List.mem_of_getElem? (i := 1671) (by decide +kernel), List.mem_of_getElem? (i := 1672) (by decide +kernel)⟩
theorem lw_p115 : lw_okq (⟨"ExchangeHouse$Seeker", "hasInstance", "(III)Z"⟩, 18) := ⟨⟨by decide +kernel, by decide +kernel⟩, List.mem_of_getElem? (i := 1165) (by decide +kernel), List.mem_of_getElem? (i := 1675) (by decide +kernel), List.mem_of_getElem? (i := 1676) (by decide +kernel)⟩
theorem lw_p116 : lw_okq (⟨"ExchangeHouse$Sheet", "isOver", "()Z"⟩, 19) := ⟨⟨by decide +kernel, by decide +kernel⟩, List.mem_of_getElem? (i := 1691) (by decide +kernel), List.mem_of_getElem? (i := 1765) (by decide +kernel), List.mem_of_getElem? (i := 1766) (by decide +kernel)⟩
theorem lw_p117 : lw_okq (⟨"ExchangeHouse$Sheet", "inst", "()V"⟩, 19) := ⟨⟨by decide +kernel, by decide +kernel⟩, List.mem_of_getElem? (i := 1691) (by decide +kernel), List.mem_of_getElem? (i := 1770) (by decide +kernel), List.mem_of_getElem? (i := 1771) (by decide +kernel)⟩
theorem lw_p118 : lw_okq (⟨"ExchangeHouse$Sheet", "line", "(LExchangeHouse$Names;)V"⟩, 19) := ⟨⟨by decide +kernel, by decide +kernel⟩, List.mem_of_getElem? (i := 1691) (by decide +kernel), List.mem_of_getElem? (i := 1780) (by decide +kernel), List.mem_of_getElem? (i := 1781) (by decide +kernel)⟩
theorem lw_p119 : lw_okq (⟨"ExchangeHouse$Sheet", "end", "()I"⟩, 19) := ⟨⟨by decide +kernel, by decide +kernel⟩, List.mem_of_getElem? (i := 1691) (by decide +kernel), List.mem_of_getElem? (i := 1784) (by decide +kernel), List.mem_of_getElem? (i := 1785) (by decide +kernel)⟩
theorem lw_p120 : lw_okq (⟨"ExchangeHouse$Sheet", "openPoint", "(I)V"⟩, 19) := ⟨⟨by decide +kernel, by decide +kernel⟩, List.mem_of_getElem? (i := 1691) (by decide +kernel), List.mem_of_getElem? (i := 1788) (by decide +kernel), List.mem_of_getElem? (i := 1789) (by decide +kernel)⟩
theorem lw_p121 : lw_okq (⟨"ExchangeHouse$Sheet", "point", "()I"⟩, 19) := ⟨⟨by decide +kernel, by decide +kernel⟩, List.mem_of_getElem? (i := 1691) (by decide +kernel), List.mem_of_getElem? (i := 1792) (by decide +kernel), List.mem_of_getElem? (i := 1793) (by decide +kernel)⟩
theorem lw_p122 : lw_okq (⟨"ExchangeHouse$Sheet", "anotherRow", "()V"⟩, 19) := ⟨⟨by decide +kernel, by decide +kernel⟩, List.mem_of_getElem? (i := 1691) (by decide +kernel), List.mem_of_getElem? (i := 1796) (by decide +kernel), List.mem_of_getElem? (i := 1797) (by decide +kernel)⟩
theorem lw_p123 : lw_okq (⟨"ExchangeHouse$Sheet", "gather", "(LExchangeHouse$Log;)V"⟩, 19) := ⟨⟨by decide +kernel, by decide +kernel⟩, List.mem_of_getElem? (i := 1691) (by decide +kernel), List.mem_of_getElem? (i := 1804) (by decide +kernel), List.mem_of_getElem? (i := 1805) (by decide +kernel)⟩
theorem lw_p124 : lw_okq (⟨"ExchangeHouse$Sheet", "isKept", "()Z"⟩, 19) := ⟨⟨by decide +kernel, by decide +kernel⟩, List.mem_of_getElem? (i := 1691) (by decide +kernel), List.mem_of_getElem? (i := 1815) (by decide +kernel), List.mem_of_getElem? (i := 1816) (by decide +kernel)⟩
theorem lw_p125 : lw_okq (⟨"ExchangeHouse$Sheet", "isKeptBy", "(I)Z"⟩, 19) := ⟨⟨by decide +kernel, by decide +kernel⟩, List.mem_of_getElem? (i := 1691) (by decide +kernel), List.mem_of_getElem? (i := 1819) (by decide +kernel), List.mem_of_getElem? (i := 1820) (by decide +kernel)⟩
theorem lw_p126 : lw_okq (⟨"ExchangeHouse$Sheet", "isChosen", "(I)Z"⟩, 19) := ⟨⟨by decide +kernel, by decide +kernel⟩, List.mem_of_getElem? (i := 1691) (by decide +kernel), List.mem_of_getElem? (i := 1823) (by decide +kernel), List.mem_of_getElem? (i := 1824) (by decide +kernel)⟩
theorem lw_p127 : lw_okq (⟨"ExchangeHouse$Sheet", "numberOf", "(I)I"⟩, 19) := ⟨⟨by decide +kernel, by decide +kernel⟩, List.mem_of_getElem? (i := 1691) (by decide +kernel), List.mem_of_getElem? (i := 1827) (by decide +kernel), List.mem_of_getElem? (i := 1828) (by decide +kernel)⟩
def lw_privs_8 : List (MethodName × Nat) := [(⟨"ExchangeHouse$Seeker", "stirAll", "(I)V"⟩, 18), (⟨"ExchangeHouse$Seeker", "answers", "(IIII)Z"⟩, 18), (⟨"ExchangeHouse$Seeker", "hasQueued", "(I)Z"⟩, 18), (⟨"ExchangeHouse$Seeker", "hasInstance", "(III)Z"⟩, 18), (⟨"ExchangeHouse$Sheet", "isOver", "()Z"⟩, 19), (⟨"ExchangeHouse$Sheet", "inst", "()V"⟩, 19), (⟨"ExchangeHouse$Sheet", "line", "(LExchangeHouse$Names;)V"⟩, 19), (⟨"ExchangeHouse$Sheet", "end", "()I"⟩, 19), (⟨"ExchangeHouse$Sheet", "openPoint", "(I)V"⟩, 19), (⟨"ExchangeHouse$Sheet", "point", "()I"⟩, 19), (⟨"ExchangeHouse$Sheet", "anotherRow", "()V"⟩, 19), (⟨"ExchangeHouse$Sheet", "gather", "(LExchangeHouse$Log;)V"⟩, 19), (⟨"ExchangeHouse$Sheet", "isKept", "()Z"⟩, 19), (⟨"ExchangeHouse$Sheet", "isKeptBy", "(I)Z"⟩, 19), (⟨"ExchangeHouse$Sheet", "isChosen", "(I)Z"⟩, 19), (⟨"ExchangeHouse$Sheet", "numberOf", "(I)I"⟩, 19)]
theorem lw_r8 : ∀ q ∈ lw_privs_8, lw_okq q := List.forall_mem_cons.mpr ⟨lw_p112, List.forall_mem_cons.mpr ⟨lw_p113, List.forall_mem_cons.mpr ⟨lw_p114, List.forall_mem_cons.mpr ⟨lw_p115, List.forall_mem_cons.mpr ⟨lw_p116, List.forall_mem_cons.mpr ⟨lw_p117, List.forall_mem_cons.mpr ⟨lw_p118, List.forall_mem_cons.mpr ⟨lw_p119, List.forall_mem_cons.mpr ⟨lw_p120, List.forall_mem_cons.mpr ⟨lw_p121, List.forall_mem_cons.mpr ⟨lw_p122, List.forall_mem_cons.mpr ⟨lw_p123, List.forall_mem_cons.mpr ⟨lw_p124, List.forall_mem_cons.mpr ⟨lw_p125, List.forall_mem_cons.mpr ⟨lw_p126, List.forall_mem_cons.mpr ⟨lw_p127, fun _ h => absurd h List.not_mem_nil⟩⟩⟩⟩⟩⟩⟩⟩⟩⟩⟩⟩⟩⟩⟩⟩
theorem lw_p128 : lw_okq (⟨"ExchangeHouse$Sheet", "did", "(IIJ)Z"⟩, 19) := ⟨⟨by decide +kernel, by decide +kernel⟩, List.mem_of_getElem? (i := 1691) (by decide +kernel), List.mem_of_getElem? (i := 1831) (by decide +kernel), List.mem_of_getElem? (i := 1832) (by decide +kernel)⟩
theorem lw_p129 : lw_okq (⟨"ExchangeHouse$Sheet", "chooseNext", "()Z"⟩, 19) := ⟨⟨by decide +kernel, by decide +kernel⟩, List.mem_of_getElem? (i := 1691) (by decide +kernel), List.mem_of_getElem? (i := 1835) (by decide +kernel), List.mem_of_getElem? (i := 1836) (by decide +kernel)⟩
theorem lw_p130 : lw_okq (⟨"ExchangeHouseModel", "four", "(I)V"⟩, 190) := ⟨⟨by decide +kernel, by decide +kernel⟩, List.mem_of_getElem? (i := 1843) (by decide +kernel), List.mem_of_getElem? (i := 2438) (by decide +kernel), List.mem_of_getElem? (i := 2439) (by decide +kernel)⟩
theorem lw_p131 : lw_okq (⟨"ExchangeHouseModel", "toText", "(I)V"⟩, 190) := ⟨⟨by decide +kernel, by decide +kernel⟩, List.mem_of_getElem? (i := 1843) (by decide +kernel), List.mem_of_getElem? (i := 2446) (by decide +kernel), List.mem_of_getElem? (i := 2447) (by decide +kernel)⟩
theorem lw_p132 : lw_okq (⟨"ExchangeHouseModel", "parse", "()Z"⟩, 190) := ⟨⟨by decide +kernel, by decide +kernel⟩, List.mem_of_getElem? (i := 1843) (by decide +kernel), List.mem_of_getElem? (i := 2450) (by decide +kernel), List.mem_of_getElem? (i := 2451) (by decide +kernel)⟩
theorem lw_p133 : lw_okq (⟨"ExchangeHouseModel", "cut", "()V"⟩, 190) := ⟨⟨by decide +kernel, by decide +kernel⟩, List.mem_of_getElem? (i := 1843) (by decide +kernel), List.mem_of_getElem? (i := 2454) (by decide +kernel), List.mem_of_getElem? (i := 2455) (by decide +kernel)⟩
theorem lw_p134 : lw_okq (⟨"ExchangeHouseModel", "behindBlanks", "(I)I"⟩, 190) := ⟨⟨by decide +kernel, by decide +kernel⟩, List.mem_of_getElem? (i := 1843) (by decide +kernel), List.mem_of_getElem? (i := 2458) (by decide +kernel), List.mem_of_getElem? (i := 2459) (by decide +kernel)⟩
theorem lw_p135 : lw_okq (⟨"ExchangeHouseModel", "byteAt", "(I)I"⟩, 190) := ⟨⟨by decide +kernel, by decide +kernel⟩, List.mem_of_getElem? (i := 1843) (by decide +kernel), List.mem_of_getElem? (i := 2462) (by decide +kernel), List.mem_of_getElem? (i := 2463) (by decide +kernel)⟩
theorem lw_p136 : lw_okq (⟨"ExchangeHouseModel", "one", "(I)I"⟩, 190) := ⟨⟨by decide +kernel, by decide +kernel⟩, List.mem_of_getElem? (i := 1843) (by decide +kernel), List.mem_of_getElem? (i := 2466) (by decide +kernel), List.mem_of_getElem? (i := 2467) (by decide +kernel)⟩
theorem lw_p137 : lw_okq (⟨"ExchangeHouseModel", "nameFrom", "(I)I"⟩, 190) := ⟨⟨by decide +kernel, by decide +kernel⟩, List.mem_of_getElem? (i := 1843) (by decide +kernel), List.mem_of_getElem? (i := 2470) (by decide +kernel), List.mem_of_getElem? (i := 2471) (by decide +kernel)⟩
theorem lw_p138 : lw_okq (⟨"ExchangeHouseModel", "token", "(IIJ)V"⟩, 190) := ⟨⟨by decide +kernel, by decide +kernel⟩, List.mem_of_getElem? (i := 1843) (by decide +kernel), List.mem_of_getElem? (i := 2474) (by decide +kernel), List.mem_of_getElem? (i := 2475) (by decide +kernel)⟩
theorem lw_p139 : lw_okq (⟨"ExchangeHouseModel", "numberFrom", "(I)I"⟩, 190) := ⟨⟨by decide +kernel, by decide +kernel⟩, List.mem_of_getElem? (i := 1843) (by decide +kernel), List.mem_of_getElem? (i := 2478) (by decide +kernel), List.mem_of_getElem? (i := 2479) (by decide +kernel)⟩
theorem lw_p140 : lw_okq (⟨"ExchangeHouseModel", "system", "()V"⟩, 190) := ⟨⟨by decide +kernel, by decide +kernel⟩, List.mem_of_getElem? (i := 1843) (by decide +kernel), List.mem_of_getElem? (i := 2484) (by decide +kernel), List.mem_of_getElem? (i := 2485) (by decide +kernel)⟩
theorem lw_p141 : lw_okq (⟨"ExchangeHouseModel", "stops", "()Z"⟩, 190) := ⟨⟨by decide +kernel, by decide +kernel⟩, List.mem_of_getElem? (i := 1843) (by decide +kernel), List.mem_of_getElem? (i := 2488) (by decide +kernel), List.mem_of_getElem? (i := 2489) (by decide +kernel)⟩
theorem lw_p142 : lw_okq (⟨"ExchangeHouseModel", "mayWord", "(I)Z"⟩, 190) := ⟨⟨by decide +kernel, by decide +kernel⟩, List.mem_of_getElem? (i := 1843) (by decide +kernel), List.mem_of_getElem? (i := 2492) (by decide +kernel), List.mem_of_getElem? (i := 2493) (by decide +kernel)⟩
theorem lw_p143 : lw_okq (⟨"ExchangeHouseModel", "isWord", "(I)Z"⟩, 190) := ⟨⟨by decide +kernel, by decide +kernel⟩, List.mem_of_getElem? (i := 1843) (by decide +kernel), List.mem_of_getElem? (i := 2496) (by decide +kernel), List.mem_of_getElem? (i := 2497) (by decide +kernel)⟩
def lw_privs_9 : List (MethodName × Nat) := [(⟨"ExchangeHouse$Sheet", "did", "(IIJ)Z"⟩, 19), (⟨"ExchangeHouse$Sheet", "chooseNext", "()Z"⟩, 19), (⟨"ExchangeHouseModel", "four", "(I)V"⟩, 190), (⟨"ExchangeHouseModel", "toText", "(I)V"⟩, 190), (⟨"ExchangeHouseModel", "parse", "()Z"⟩, 190), (⟨"ExchangeHouseModel", "cut", "()V"⟩, 190), (⟨"ExchangeHouseModel", "behindBlanks", "(I)I"⟩, 190), (⟨"ExchangeHouseModel", "byteAt", "(I)I"⟩, 190), (⟨"ExchangeHouseModel", "one", "(I)I"⟩, 190), (⟨"ExchangeHouseModel", "nameFrom", "(I)I"⟩, 190), (⟨"ExchangeHouseModel", "token", "(IIJ)V"⟩, 190), (⟨"ExchangeHouseModel", "numberFrom", "(I)I"⟩, 190), (⟨"ExchangeHouseModel", "system", "()V"⟩, 190), (⟨"ExchangeHouseModel", "stops", "()Z"⟩, 190), (⟨"ExchangeHouseModel", "mayWord", "(I)Z"⟩, 190), (⟨"ExchangeHouseModel", "isWord", "(I)Z"⟩, 190)]
theorem lw_r9 : ∀ q ∈ lw_privs_9, lw_okq q := List.forall_mem_cons.mpr ⟨lw_p128, List.forall_mem_cons.mpr ⟨lw_p129, List.forall_mem_cons.mpr ⟨lw_p130, List.forall_mem_cons.mpr ⟨lw_p131, List.forall_mem_cons.mpr ⟨lw_p132, List.forall_mem_cons.mpr ⟨lw_p133, List.forall_mem_cons.mpr ⟨lw_p134, List.forall_mem_cons.mpr ⟨lw_p135, List.forall_mem_cons.mpr ⟨lw_p136, List.forall_mem_cons.mpr ⟨lw_p137, List.forall_mem_cons.mpr ⟨lw_p138, List.forall_mem_cons.mpr ⟨lw_p139, List.forall_mem_cons.mpr ⟨lw_p140, List.forall_mem_cons.mpr ⟨lw_p141, List.forall_mem_cons.mpr ⟨lw_p142, List.forall_mem_cons.mpr ⟨lw_p143, fun _ h => absurd h List.not_mem_nil⟩⟩⟩⟩⟩⟩⟩⟩⟩⟩⟩⟩⟩⟩⟩⟩
theorem lw_p144 : lw_okq (⟨"ExchangeHouseModel", "take", "()V"⟩, 190) := ⟨⟨by decide +kernel, by decide +kernel⟩, List.mem_of_getElem? (i := 1843) (by decide +kernel), List.mem_of_getElem? (i := 2500) (by decide +kernel), List.mem_of_getElem? (i := 2501) (by decide +kernel)⟩
theorem lw_p145 : lw_okq (⟨"ExchangeHouseModel", "breaks", "(II)V"⟩, 190) := ⟨⟨by decide +kernel, by decide +kernel⟩, List.mem_of_getElem? (i := 1843) (by decide +kernel), List.mem_of_getElem? (i := 2504) (by decide +kernel), List.mem_of_getElem? (i := 2505) (by decide +kernel)⟩
theorem lw_p146 : lw_okq (⟨"ExchangeHouseModel", "signals", "()V"⟩, 190) := ⟨⟨by decide +kernel, by decide +kernel⟩, List.mem_of_getElem? (i := 1843) (by decide +kernel), List.mem_of_getElem? (i := 2508) (by decide +kernel), List.mem_of_getElem? (i := 2509) (by decide +kernel)⟩
theorem lw_p147 : lw_okq (⟨"ExchangeHouseModel", "name", "()I"⟩, 190) := ⟨⟨by decide +kernel, by decide +kernel⟩, List.mem_of_getElem? (i := 1843) (by decide +kernel), List.mem_of_getElem? (i := 2512) (by decide +kernel), List.mem_of_getElem? (i := 2513) (by decide +kernel)⟩
theorem lw_p148 : lw_okq (⟨"ExchangeHouseModel", "wrong", "()V"⟩, 190) := ⟨⟨by decide +kernel, by decide +kernel⟩, List.mem_of_getElem? (i := 1843) (by decide +kernel), List.mem_of_getElem? (i := 2516) (by decide +kernel), List.mem_of_getElem? (i := 2517) (by decide +kernel)⟩
theorem lw_p149 : lw_okq (⟨"ExchangeHouseModel", "global", "(I)V"⟩, 190) := ⟨⟨by decide +kernel, by decide +kernel⟩, List.mem_of_getElem? (i := 1843) (by decide +kernel), List.mem_of_getElem? (i := 2520) (by decide +kernel), List.mem_of_getElem? (i := 2521) (by decide +kernel)⟩
theorem lw_p150 : lw_okq (⟨"ExchangeHouseModel", "note", "(II)V"⟩, 190) := ⟨⟨by decide +kernel, by decide +kernel⟩, List.mem_of_getElem? (i := 1843) (by decide +kernel), List.mem_of_getElem? (i := 2524) (by decide +kernel), List.mem_of_getElem? (i := 2525) (by decide +kernel)⟩
theorem lw_p151 : lw_okq (⟨"ExchangeHouseModel", "isSign", "(I)Z"⟩, 190) := ⟨⟨by decide +kernel, by decide +kernel⟩, List.mem_of_getElem? (i := 1843) (by decide +kernel), List.mem_of_getElem? (i := 2528) (by decide +kernel), List.mem_of_getElem? (i := 2529) (by decide +kernel)⟩
theorem lw_p152 : lw_okq (⟨"ExchangeHouseModel", "sorts", "(I)V"⟩, 190) := ⟨⟨by decide +kernel, by decide +kernel⟩, List.mem_of_getElem? (i := 1843) (by decide +kernel), List.mem_of_getElem? (i := 2532) (by decide +kernel), List.mem_of_getElem? (i := 2533) (by decide +kernel)⟩
theorem lw_p153 : lw_okq (⟨"ExchangeHouseModel", "openSign", "(I)V"⟩, 190) := ⟨⟨by decide +kernel, by decide +kernel⟩, List.mem_of_getElem? (i := 1843) (by decide +kernel), List.mem_of_getElem? (i := 2536) (by decide +kernel), List.mem_of_getElem? (i := 2537) (by decide +kernel)⟩
theorem lw_p154 : lw_okq (⟨"ExchangeHouseModel", "opens", "()V"⟩, 190) := ⟨⟨by decide +kernel, by decide +kernel⟩, List.mem_of_getElem? (i := 1843) (by decide +kernel), List.mem_of_getElem? (i := 2540) (by decide +kernel), List.mem_of_getElem? (i := 2541) (by decide +kernel)⟩
theorem lw_p155 : lw_okq (⟨"ExchangeHouseModel", "sort", "()I"⟩, 190) := ⟨⟨by decide +kernel, by decide +kernel⟩, List.mem_of_getElem? (i := 1843) (by decide +kernel), List.mem_of_getElem? (i := 2544) (by decide +kernel), List.mem_of_getElem? (i := 2545) (by decide +kernel)⟩
theorem lw_p156 : lw_okq (⟨"ExchangeHouseModel", "maySign", "(I)Z"⟩, 190) := ⟨⟨by decide +kernel, by decide +kernel⟩, List.mem_of_getElem? (i := 1843) (by decide +kernel), List.mem_of_getElem? (i := 2548) (by decide +kernel), List.mem_of_getElem? (i := 2549) (by decide +kernel)⟩
theorem lw_p157 : lw_okq (⟨"ExchangeHouseModel", "closeSign", "(I)V"⟩, 190) := ⟨⟨by decide +kernel, by decide +kernel⟩, List.mem_of_getElem? (i := 1843) (by decide +kernel), List.mem_of_getElem? (i := 2552) (by decide +kernel), List.mem_of_getElem? (i := 2553) (by decide +kernel)⟩
theorem lw_p158 : lw_okq (⟨"ExchangeHouseModel", "sign", "(I)V"⟩, 190) := ⟨⟨by decide +kernel, by decide +kernel⟩, List.mem_of_getElem? (i := 1843) (by decide +kernel), List.mem_of_getElem? (i := 2556) (by decide +kernel), List.mem_of_getElem? (i := 2557) (by decide +kernel)⟩
theorem lw_p159 : lw_okq (⟨"ExchangeHouseModel", "routeLine", "(I)V"⟩, 190) := ⟨⟨by decide +kernel, by decide +kernel⟩, List.mem_of_getElem? (i := 1843) (by decide +kernel), List.mem_of_getElem? (i := 2560) (by decide +kernel), List.mem_of_getElem? (i := 2561) (by decide +kernel)⟩
def lw_privs_10 : List (MethodName × Nat) := [(⟨"ExchangeHouseModel", "take", "()V"⟩, 190), (⟨"ExchangeHouseModel", "breaks", "(II)V"⟩, 190), (⟨"ExchangeHouseModel", "signals", "()V"⟩, 190), (⟨"ExchangeHouseModel", "name", "()I"⟩, 190), (⟨"ExchangeHouseModel", "wrong", "()V"⟩, 190), (⟨"ExchangeHouseModel", "global", "(I)V"⟩, 190), (⟨"ExchangeHouseModel", "note", "(II)V"⟩, 190), (⟨"ExchangeHouseModel", "isSign", "(I)Z"⟩, 190), (⟨"ExchangeHouseModel", "sorts", "(I)V"⟩, 190), (⟨"ExchangeHouseModel", "openSign", "(I)V"⟩, 190), (⟨"ExchangeHouseModel", "opens", "()V"⟩, 190), (⟨"ExchangeHouseModel", "sort", "()I"⟩, 190), (⟨"ExchangeHouseModel", "maySign", "(I)Z"⟩, 190), (⟨"ExchangeHouseModel", "closeSign", "(I)V"⟩, 190), (⟨"ExchangeHouseModel", "sign", "(I)V"⟩, 190), (⟨"ExchangeHouseModel", "routeLine", "(I)V"⟩, 190)]
theorem lw_r10 : ∀ q ∈ lw_privs_10, lw_okq q := List.forall_mem_cons.mpr ⟨lw_p144, List.forall_mem_cons.mpr ⟨lw_p145, List.forall_mem_cons.mpr ⟨lw_p146, List.forall_mem_cons.mpr ⟨lw_p147, List.forall_mem_cons.mpr ⟨lw_p148, List.forall_mem_cons.mpr ⟨lw_p149, List.forall_mem_cons.mpr ⟨lw_p150, List.forall_mem_cons.mpr ⟨lw_p151, List.forall_mem_cons.mpr ⟨lw_p152, List.forall_mem_cons.mpr ⟨lw_p153, List.forall_mem_cons.mpr ⟨lw_p154, List.forall_mem_cons.mpr ⟨lw_p155, List.forall_mem_cons.mpr ⟨lw_p156, List.forall_mem_cons.mpr ⟨lw_p157, List.forall_mem_cons.mpr ⟨lw_p158, List.forall_mem_cons.mpr ⟨lw_p159, fun _ h => absurd h List.not_mem_nil⟩⟩⟩⟩⟩⟩⟩⟩⟩⟩⟩⟩⟩⟩⟩⟩
theorem lw_p160 : lw_okq (⟨"ExchangeHouseModel", "side", "()J"⟩, 190) := ⟨⟨by decide +kernel, by decide +kernel⟩, List.mem_of_getElem? (i := 1843) (by decide +kernel), List.mem_of_getElem? (i := 2564) (by decide +kernel), List.mem_of_getElem? (i := 2565) (by decide +kernel)⟩
theorem lw_p161 : lw_okq (⟨"ExchangeHouseModel", "typeOf", "(J)I"⟩, 190) := ⟨⟨by decide +kernel, by decide +kernel⟩, List.mem_of_getElem? (i := 1843) (by decide +kernel), List.mem_of_getElem? (i := 2568) (by decide +kernel), List.mem_of_getElem? (i := 2569) (by decide +kernel)⟩
theorem lw_p162 : lw_okq (⟨"ExchangeHouseModel", "bounded", "(I)I"⟩, 190) := ⟨⟨by decide +kernel, by decide +kernel⟩, List.mem_of_getElem? (i := 1843) (by decide +kernel), List.mem_of_getElem? (i := 2572) (by decide +kernel), List.mem_of_getElem? (i := 2573) (by decide +kernel)⟩
theorem lw_p163 : lw_okq (⟨"ExchangeHouseModel", "number", "()I"⟩, 190) := ⟨⟨by decide +kernel, by decide +kernel⟩, List.mem_of_getElem? (i := 1843) (by decide +kernel), List.mem_of_getElem? (i := 2576) (by decide +kernel), List.mem_of_getElem? (i := 2577) (by decide +kernel)⟩
theorem lw_p164 : lw_okq (⟨"ExchangeHouseModel", "word", "(I)V"⟩, 190) := ⟨⟨by decide +kernel, by decide +kernel⟩, List.mem_of_getElem? (i := 1843) (by decide +kernel), List.mem_of_getElem? (i := 2580) (by decide +kernel), List.mem_of_getElem? (i := 2581) (by decide +kernel)⟩
theorem lw_p165 : lw_okq (⟨"ExchangeHouseModel", "signalOf", "(J)I"⟩, 190) := ⟨⟨by decide +kernel, by decide +kernel⟩, List.mem_of_getElem? (i := 1843) (by decide +kernel), List.mem_of_getElem? (i := 2584) (by decide +kernel), List.mem_of_getElem? (i := 2585) (by decide +kernel)⟩
theorem lw_p166 : lw_okq (⟨"ExchangeHouseModel", "process", "(I)V"⟩, 190) := ⟨⟨by decide +kernel, by decide +kernel⟩, List.mem_of_getElem? (i := 1843) (by decide +kernel), List.mem_of_getElem? (i := 2588) (by decide +kernel), List.mem_of_getElem? (i := 2589) (by decide +kernel)⟩
theorem lw_p167 : lw_okq (⟨"ExchangeHouseModel", "pars", "()I"⟩, 190) := ⟨⟨by decide +kernel, by decide +kernel⟩, List.mem_of_getElem? (i := 1843) (by decide +kernel), List.mem_of_getElem? (i := 2592) (by decide +kernel), List.mem_of_getElem? (i := 2593) (by decide +kernel)⟩
theorem lw_p168 : lw_okq (⟨"ExchangeHouseModel", "variable", "(II)V"⟩, 190) := ⟨⟨by decide +kernel, by decide +kernel⟩, List.mem_of_getElem? (i := 1843) (by decide +kernel), List.mem_of_getElem? (i := 2596) (by decide +kernel), List.mem_of_getElem? (i := 2597) (by decide +kernel)⟩
theorem lw_p169 : lw_okq (⟨"ExchangeHouseModel", "own", "(I)V"⟩, 190) := ⟨⟨by decide +kernel, by decide +kernel⟩, List.mem_of_getElem? (i := 1843) (by decide +kernel), List.mem_of_getElem? (i := 2600) (by decide +kernel), List.mem_of_getElem? (i := 2601) (by decide +kernel)⟩
theorem lw_p170 : lw_okq (⟨"ExchangeHouseModel", "holds", "(IIII)V"⟩, 190) := ⟨⟨by decide +kernel, by decide +kernel⟩, List.mem_of_getElem? (i := 1843) (by decide +kernel), List.mem_of_getElem? (i := 2604) (by decide +kernel), List.mem_of_getElem? (i := 2605) (by decide +kernel)⟩
theorem lw_p171 : lw_okq (⟨"ExchangeHouseModel", "declarations", "(I)V"⟩, 190) := ⟨⟨by decide +kernel, by decide +kernel⟩, List.mem_of_getElem? (i := 1843) (by decide +kernel), List.mem_of_getElem? (i := 2608) (by decide +kernel), List.mem_of_getElem? (i := 2609) (by decide +kernel)⟩
theorem lw_p172 : lw_okq (⟨"ExchangeHouseModel", "declared", "(I)V"⟩, 190) := ⟨⟨by decide +kernel, by decide +kernel⟩, List.mem_of_getElem? (i := 1843) (by decide +kernel), List.mem_of_getElem? (i := 2612) (by decide +kernel), List.mem_of_getElem? (i := 2613) (by decide +kernel)⟩
theorem lw_p173 : lw_okq (⟨"ExchangeHouseModel", "timerLine", "(I)V"⟩, 190) := ⟨⟨by decide +kernel, by decide +kernel⟩, List.mem_of_getElem? (i := 1843) (by decide +kernel), List.mem_of_getElem? (i := 2616) (by decide +kernel), List.mem_of_getElem? (i := 2617) (by decide +kernel)⟩
theorem lw_p174 : lw_okq (⟨"ExchangeHouseModel", "trans", "(ZI)V"⟩, 190) := ⟨⟨by decide +kernel, by decide +kernel⟩, List.mem_of_getElem? (i := 1843) (by decide +kernel), List.mem_of_getElem? (i := 2620) (by decide +kernel), List.mem_of_getElem? (i := 2621) (by decide +kernel)⟩
theorem lw_p175 : lw_okq (⟨"ExchangeHouseModel", "isLabel", "()Z"⟩, 190) := ⟨⟨by decide +kernel, by decide +kernel⟩, List.mem_of_getElem? (i := 1843) (by decide +kernel), List.mem_of_getElem? (i := 2624) (by decide +kernel), List.mem_of_getElem? (i := 2625) (by decide +kernel)⟩
def lw_privs_11 : List (MethodName × Nat) := [(⟨"ExchangeHouseModel", "side", "()J"⟩, 190), (⟨"ExchangeHouseModel", "typeOf", "(J)I"⟩, 190), (⟨"ExchangeHouseModel", "bounded", "(I)I"⟩, 190), (⟨"ExchangeHouseModel", "number", "()I"⟩, 190), (⟨"ExchangeHouseModel", "word", "(I)V"⟩, 190), (⟨"ExchangeHouseModel", "signalOf", "(J)I"⟩, 190), (⟨"ExchangeHouseModel", "process", "(I)V"⟩, 190), (⟨"ExchangeHouseModel", "pars", "()I"⟩, 190), (⟨"ExchangeHouseModel", "variable", "(II)V"⟩, 190), (⟨"ExchangeHouseModel", "own", "(I)V"⟩, 190), (⟨"ExchangeHouseModel", "holds", "(IIII)V"⟩, 190), (⟨"ExchangeHouseModel", "declarations", "(I)V"⟩, 190), (⟨"ExchangeHouseModel", "declared", "(I)V"⟩, 190), (⟨"ExchangeHouseModel", "timerLine", "(I)V"⟩, 190), (⟨"ExchangeHouseModel", "trans", "(ZI)V"⟩, 190), (⟨"ExchangeHouseModel", "isLabel", "()Z"⟩, 190)]
theorem lw_r11 : ∀ q ∈ lw_privs_11, lw_okq q := List.forall_mem_cons.mpr ⟨lw_p160, List.forall_mem_cons.mpr ⟨lw_p161, List.forall_mem_cons.mpr ⟨lw_p162, List.forall_mem_cons.mpr ⟨lw_p163, List.forall_mem_cons.mpr ⟨lw_p164, List.forall_mem_cons.mpr ⟨lw_p165, List.forall_mem_cons.mpr ⟨lw_p166, List.forall_mem_cons.mpr ⟨lw_p167, List.forall_mem_cons.mpr ⟨lw_p168, List.forall_mem_cons.mpr ⟨lw_p169, List.forall_mem_cons.mpr ⟨lw_p170, List.forall_mem_cons.mpr ⟨lw_p171, List.forall_mem_cons.mpr ⟨lw_p172, List.forall_mem_cons.mpr ⟨lw_p173, List.forall_mem_cons.mpr ⟨lw_p174, List.forall_mem_cons.mpr ⟨lw_p175, fun _ h => absurd h List.not_mem_nil⟩⟩⟩⟩⟩⟩⟩⟩⟩⟩⟩⟩⟩⟩⟩⟩
theorem lw_p176 : lw_okq (⟨"ExchangeHouseModel", "label", "(I)V"⟩, 190) := ⟨⟨by decide +kernel, by decide +kernel⟩, List.mem_of_getElem? (i := 1843) (by decide +kernel), List.mem_of_getElem? (i := 2629) (by decide +kernel), List.mem_of_getElem? (i := 2630) (by decide +kernel)⟩
theorem lw_p177 : lw_okq (⟨"ExchangeHouseModel", "isLast", "()Z"⟩, 190) := ⟨⟨by decide +kernel, by decide +kernel⟩, List.mem_of_getElem? (i := 1843) (by decide +kernel), List.mem_of_getElem? (i := 2633) (by decide +kernel), List.mem_of_getElem? (i := 2634) (by decide +kernel)⟩
theorem lw_p178 : lw_okq (⟨"ExchangeHouseModel", "last", "(I)V"⟩, 190) := ⟨⟨by decide +kernel, by decide +kernel⟩, List.mem_of_getElem? (i := 1843) (by decide +kernel), List.mem_of_getElem? (i := 2637) (by decide +kernel), List.mem_of_getElem? (i := 2638) (by decide +kernel)⟩
theorem lw_p179 : lw_okq (⟨"ExchangeHouseModel", "next", "(II)V"⟩, 190) := ⟨⟨by decide +kernel, by decide +kernel⟩, List.mem_of_getElem? (i := 1843) (by decide +kernel), List.mem_of_getElem? (i := 2641) (by decide +kernel), List.mem_of_getElem? (i := 2642) (by decide +kernel)⟩
theorem lw_p180 : lw_okq (⟨"ExchangeHouseModel", "emit", "(II)I"⟩, 190) := ⟨⟨by decide +kernel, by decide +kernel⟩, List.mem_of_getElem? (i := 1843) (by decide +kernel), List.mem_of_getElem? (i := 2645) (by decide +kernel), List.mem_of_getElem? (i := 2646) (by decide +kernel)⟩
theorem lw_p181 : lw_okq (⟨"ExchangeHouseModel", "stateOf", "(IJ)I"⟩, 190) := ⟨⟨by decide +kernel, by decide +kernel⟩, List.mem_of_getElem? (i := 1843) (by decide +kernel), List.mem_of_getElem? (i := 2649) (by decide +kernel), List.mem_of_getElem? (i := 2650) (by decide +kernel)⟩
theorem lw_p182 : lw_okq (⟨"ExchangeHouseModel", "labelOf", "(IJ)I"⟩, 190) := ⟨⟨by decide +kernel, by decide +kernel⟩, List.mem_of_getElem? (i := 1843) (by decide +kernel), List.mem_of_getElem? (i := 2653) (by decide +kernel), List.mem_of_getElem? (i := 2654) (by decide +kernel)⟩
theorem lw_p183 : lw_okq (⟨"ExchangeHouseModel", "decide", "()V"⟩, 190) := ⟨⟨by decide +kernel, by decide +kernel⟩, List.mem_of_getElem? (i := 1843) (by decide +kernel), List.mem_of_getElem? (i := 2657) (by decide +kernel), List.mem_of_getElem? (i := 2658) (by decide +kernel)⟩
theorem lw_p184 : lw_okq (⟨"ExchangeHouseModel", "wanted", "(I)I"⟩, 190) := ⟨⟨by decide +kernel, by decide +kernel⟩, List.mem_of_getElem? (i := 1843) (by decide +kernel), List.mem_of_getElem? (i := 2661) (by decide +kernel), List.mem_of_getElem? (i := 2662) (by decide +kernel)⟩
theorem lw_p185 : lw_okq (⟨"ExchangeHouseModel", "expression", "()V"⟩, 190) := ⟨⟨by decide +kernel, by decide +kernel⟩, List.mem_of_getElem? (i := 1843) (by decide +kernel), List.mem_of_getElem? (i := 2665) (by decide +kernel), List.mem_of_getElem? (i := 2666) (by decide +kernel)⟩
theorem lw_p186 : lw_okq (⟨"ExchangeHouseModel", "start", "()Z"⟩, 190) := ⟨⟨by decide +kernel, by decide +kernel⟩, List.mem_of_getElem? (i := 1843) (by decide +kernel), List.mem_of_getElem? (i := 2669) (by decide +kernel), List.mem_of_getElem? (i := 2670) (by decide +kernel)⟩
theorem lw_p187 : lw_okq (⟨"ExchangeHouseModel", "hold", "(II)V"⟩, 190) := ⟨⟨by decide +kernel, by decide +kernel⟩, List.mem_of_getElem? (i := 1843) (by decide +kernel), List.mem_of_getElem? (i := 2673) (by decide +kernel), List.mem_of_getElem? (i := 2674) (by decide +kernel)⟩
theorem lw_p188 : lw_okq (⟨"ExchangeHouseModel", "bracket", "(II)V"⟩, 190) := ⟨⟨by decide +kernel, by decide +kernel⟩, List.mem_of_getElem? (i := 1843) (by decide +kernel), List.mem_of_getElem? (i := 2677) (by decide +kernel), List.mem_of_getElem? (i := 2678) (by decide +kernel)⟩
theorem lw_p189 : lw_okq (⟨"ExchangeHouseModel", "named", "(I)Z"⟩, 190) := ⟨⟨by decide +kernel, by decide +kernel⟩, List.mem_of_getElem? (i := 1843) (by decide +kernel), List.mem_of_getElem? (i := 2681) (by decide +kernel), List.mem_of_getElem? (i := 2682) (by decide +kernel)⟩
theorem lw_p190 : lw_okq (⟨"ExchangeHouseModel", "variableOf", "(IJ)I"⟩, 190) := ⟨⟨by decide +kernel, by decide +kernel⟩, List.mem_of_getElem? (i := 1843) (by decide +kernel), List.mem_of_getElem? (i := 2685) (by decide +kernel), List.mem_of_getElem? (i := 2686) (by decide +kernel)⟩
theorem lw_p191 : lw_okq (⟨"ExchangeHouseModel", "put", "(II)V"⟩, 190) := ⟨⟨by decide +kernel, by decide +kernel⟩, List.mem_of_getElem? (i := 1843) (by decide +kernel), List.mem_of_getElem? (i := 2689) (by decide +kernel), List.mem_of_getElem? (i := 2690) (by decide +kernel)⟩
def lw_privs_12 : List (MethodName × Nat) := [(⟨"ExchangeHouseModel", "label", "(I)V"⟩, 190), (⟨"ExchangeHouseModel", "isLast", "()Z"⟩, 190), (⟨"ExchangeHouseModel", "last", "(I)V"⟩, 190), (⟨"ExchangeHouseModel", "next", "(II)V"⟩, 190), (⟨"ExchangeHouseModel", "emit", "(II)I"⟩, 190), (⟨"ExchangeHouseModel", "stateOf", "(IJ)I"⟩, 190), (⟨"ExchangeHouseModel", "labelOf", "(IJ)I"⟩, 190), (⟨"ExchangeHouseModel", "decide", "()V"⟩, 190), (⟨"ExchangeHouseModel", "wanted", "(I)I"⟩, 190), (⟨"ExchangeHouseModel", "expression", "()V"⟩, 190), (⟨"ExchangeHouseModel", "start", "()Z"⟩, 190), (⟨"ExchangeHouseModel", "hold", "(II)V"⟩, 190), (⟨"ExchangeHouseModel", "bracket", "(II)V"⟩, 190), (⟨"ExchangeHouseModel", "named", "(I)Z"⟩, 190), (⟨"ExchangeHouseModel", "variableOf", "(IJ)I"⟩, 190), (⟨"ExchangeHouseModel", "put", "(II)V"⟩, 190)]
theorem lw_r12 : ∀ q ∈ lw_privs_12, lw_okq q := List.forall_mem_cons.mpr ⟨lw_p176, List.forall_mem_cons.mpr ⟨lw_p177, List.forall_mem_cons.mpr ⟨lw_p178, List.forall_mem_cons.mpr ⟨lw_p179, List.forall_mem_cons.mpr ⟨lw_p180, List.forall_mem_cons.mpr ⟨lw_p181, List.forall_mem_cons.mpr ⟨lw_p182, List.forall_mem_cons.mpr ⟨lw_p183, List.forall_mem_cons.mpr ⟨lw_p184, List.forall_mem_cons.mpr ⟨lw_p185, List.forall_mem_cons.mpr ⟨lw_p186, List.forall_mem_cons.mpr ⟨lw_p187, List.forall_mem_cons.mpr ⟨lw_p188, List.forall_mem_cons.mpr ⟨lw_p189, List.forall_mem_cons.mpr ⟨lw_p190, List.forall_mem_cons.mpr ⟨lw_p191, fun _ h => absurd h List.not_mem_nil⟩⟩⟩⟩⟩⟩⟩⟩⟩⟩⟩⟩⟩⟩⟩⟩
theorem lw_p192 : lw_okq (⟨"ExchangeHouseModel", "operand", "(IIZ)V"⟩, 190) := ⟨⟨by decide +kernel, by decide +kernel⟩, List.mem_of_getElem? (i := 1843) (by decide +kernel), List.mem_of_getElem? (i := 2693) (by decide +kernel), List.mem_of_getElem? (i := 2694) (by decide +kernel)⟩
theorem lw_p193 : lw_okq (⟨"ExchangeHouseModel", "prefixes", "()V"⟩, 190) := ⟨⟨by decide +kernel, by decide +kernel⟩, List.mem_of_getElem? (i := 1843) (by decide +kernel), List.mem_of_getElem? (i := 2697) (by decide +kernel), List.mem_of_getElem? (i := 2698) (by decide +kernel)⟩
theorem lw_p194 : lw_okq (⟨"ExchangeHouseModel", "asks", "(II)Z"⟩, 190) := ⟨⟨by decide +kernel, by decide +kernel⟩, List.mem_of_getElem? (i := 1843) (by decide +kernel), List.mem_of_getElem? (i := 2701) (by decide +kernel), List.mem_of_getElem? (i := 2702) (by decide +kernel)⟩
theorem lw_p195 : lw_okq (⟨"ExchangeHouseModel", "told", "(I)Z"⟩, 190) := ⟨⟨by decide +kernel, by decide +kernel⟩, List.mem_of_getElem? (i := 1843) (by decide +kernel), List.mem_of_getElem? (i := 2705) (by decide +kernel), List.mem_of_getElem? (i := 2706) (by decide +kernel)⟩
theorem lw_p196 : lw_okq (⟨"ExchangeHouseModel", "timerNamed", "()I"⟩, 190) := ⟨⟨by decide +kernel, by decide +kernel⟩, List.mem_of_getElem? (i := 1843) (by decide +kernel), List.mem_of_getElem? (i := 2709) (by decide +kernel), List.mem_of_getElem? (i := 2710) (by decide +kernel)⟩
theorem lw_p197 : lw_okq (⟨"ExchangeHouseModel", "timerOf", "(IJ)I"⟩, 190) := ⟨⟨by decide +kernel, by decide +kernel⟩, List.mem_of_getElem? (i := 1843) (by decide +kernel), List.mem_of_getElem? (i := 2713) (by decide +kernel), List.mem_of_getElem? (i := 2714) (by decide +kernel)⟩
theorem lw_p198 : lw_okq (⟨"ExchangeHouseModel", "lastBracket", "()I"⟩, 190) := ⟨⟨by decide +kernel, by decide +kernel⟩, List.mem_of_getElem? (i := 1843) (by decide +kernel), List.mem_of_getElem? (i := 2717) (by decide +kernel), List.mem_of_getElem? (i := 2718) (by decide +kernel)⟩
theorem lw_p199 : lw_okq (⟨"ExchangeHouseModel", "closes", "()V"⟩, 190) := ⟨⟨by decide +kernel, by decide +kernel⟩, List.mem_of_getElem? (i := 1843) (by decide +kernel), List.mem_of_getElem? (i := 2721) (by decide +kernel), List.mem_of_getElem? (i := 2722) (by decide +kernel)⟩
theorem lw_p200 : lw_okq (⟨"ExchangeHouseModel", "reduce", "(I)V"⟩, 190) := ⟨⟨by decide +kernel, by decide +kernel⟩, List.mem_of_getElem? (i := 1843) (by decide +kernel), List.mem_of_getElem? (i := 2725) (by decide +kernel), List.mem_of_getElem? (i := 2726) (by decide +kernel)⟩
theorem lw_p201 : lw_okq (⟨"ExchangeHouseModel", "level", "()I"⟩, 190) := ⟨⟨by decide +kernel, by decide +kernel⟩, List.mem_of_getElem? (i := 1843) (by decide +kernel), List.mem_of_getElem? (i := 2732) (by decide +kernel), List.mem_of_getElem? (i := 2733) (by decide +kernel)⟩
theorem lw_p202 : lw_okq (⟨"ExchangeHouseModel", "between", "(I)V"⟩, 190) := ⟨⟨by decide +kernel, by decide +kernel⟩, List.mem_of_getElem? (i := 1843) (by decide +kernel), List.mem_of_getElem? (i := 2736) (by decide +kernel), List.mem_of_getElem? (i := 2737) (by decide +kernel)⟩
theorem lw_p203 : lw_okq (⟨"ExchangeHouseModel", "signHere", "()I"⟩, 190) := ⟨⟨by decide +kernel, by decide +kernel⟩, List.mem_of_getElem? (i := 1843) (by decide +kernel), List.mem_of_getElem? (i := 2740) (by decide +kernel), List.mem_of_getElem? (i := 2741) (by decide +kernel)⟩
theorem lw_p204 : lw_okq (⟨"ExchangeHouseModel", "branch", "()V"⟩, 190) := ⟨⟨by decide +kernel, by decide +kernel⟩, List.mem_of_getElem? (i := 1843) (by decide +kernel), List.mem_of_getElem? (i := 2744) (by decide +kernel), List.mem_of_getElem? (i := 2745) (by decide +kernel)⟩
theorem lw_p205 : lw_okq (⟨"ExchangeHouseModel", "isRange", "()Z"⟩, 190) := ⟨⟨by decide +kernel, by decide +kernel⟩, List.mem_of_getElem? (i := 1843) (by decide +kernel), List.mem_of_getElem? (i := 2748) (by decide +kernel), List.mem_of_getElem? (i := 2749) (by decide +kernel)⟩
theorem lw_p206 : lw_okq (⟨"ExchangeHouseModel", "range", "(II)V"⟩, 190) := ⟨⟨by decide +kernel, by decide +kernel⟩, List.mem_of_getElem? (i := 1843) (by decide +kernel), List.mem_of_getElem? (i := 2752) (by decide +kernel), List.mem_of_getElem? (i := 2753) (by decide +kernel)⟩
theorem lw_p207 : lw_okq (⟨"ExchangeHouseModel", "bound", "()I"⟩, 190) := ⟨⟨by decide +kernel, by decide +kernel⟩, List.mem_of_getElem? (i := 1843) (by decide +kernel), List.mem_of_getElem? (i := 2756) (by decide +kernel), List.mem_of_getElem? (i := 2757) (by decide +kernel)⟩
def lw_privs_13 : List (MethodName × Nat) := [(⟨"ExchangeHouseModel", "operand", "(IIZ)V"⟩, 190), (⟨"ExchangeHouseModel", "prefixes", "()V"⟩, 190), (⟨"ExchangeHouseModel", "asks", "(II)Z"⟩, 190), (⟨"ExchangeHouseModel", "told", "(I)Z"⟩, 190), (⟨"ExchangeHouseModel", "timerNamed", "()I"⟩, 190), (⟨"ExchangeHouseModel", "timerOf", "(IJ)I"⟩, 190), (⟨"ExchangeHouseModel", "lastBracket", "()I"⟩, 190), (⟨"ExchangeHouseModel", "closes", "()V"⟩, 190), (⟨"ExchangeHouseModel", "reduce", "(I)V"⟩, 190), (⟨"ExchangeHouseModel", "level", "()I"⟩, 190), (⟨"ExchangeHouseModel", "between", "(I)V"⟩, 190), (⟨"ExchangeHouseModel", "signHere", "()I"⟩, 190), (⟨"ExchangeHouseModel", "branch", "()V"⟩, 190), (⟨"ExchangeHouseModel", "isRange", "()Z"⟩, 190), (⟨"ExchangeHouseModel", "range", "(II)V"⟩, 190), (⟨"ExchangeHouseModel", "bound", "()I"⟩, 190)]
theorem lw_r13 : ∀ q ∈ lw_privs_13, lw_okq q := List.forall_mem_cons.mpr ⟨lw_p192, List.forall_mem_cons.mpr ⟨lw_p193, List.forall_mem_cons.mpr ⟨lw_p194, List.forall_mem_cons.mpr ⟨lw_p195, List.forall_mem_cons.mpr ⟨lw_p196, List.forall_mem_cons.mpr ⟨lw_p197, List.forall_mem_cons.mpr ⟨lw_p198, List.forall_mem_cons.mpr ⟨lw_p199, List.forall_mem_cons.mpr ⟨lw_p200, List.forall_mem_cons.mpr ⟨lw_p201, List.forall_mem_cons.mpr ⟨lw_p202, List.forall_mem_cons.mpr ⟨lw_p203, List.forall_mem_cons.mpr ⟨lw_p204, List.forall_mem_cons.mpr ⟨lw_p205, List.forall_mem_cons.mpr ⟨lw_p206, List.forall_mem_cons.mpr ⟨lw_p207, fun _ h => absurd h List.not_mem_nil⟩⟩⟩⟩⟩⟩⟩⟩⟩⟩⟩⟩⟩⟩⟩⟩
theorem lw_p208 : lw_okq (⟨"ExchangeHouseModel", "isAct", "()Z"⟩, 190) := ⟨⟨by decide +kernel, by decide +kernel⟩, List.mem_of_getElem? (i := 1843) (by decide +kernel), List.mem_of_getElem? (i := 2760) (by decide +kernel), List.mem_of_getElem? (i := 2761) (by decide +kernel)⟩
theorem lw_p209 : lw_okq (⟨"ExchangeHouseModel", "act", "()V"⟩, 190) := ⟨⟨by decide +kernel, by decide +kernel⟩, List.mem_of_getElem? (i := 1843) (by decide +kernel), List.mem_of_getElem? (i := 2764) (by decide +kernel), List.mem_of_getElem? (i := 2765) (by decide +kernel)⟩
theorem lw_p210 : lw_okq (⟨"ExchangeHouseModel", "output", "(I)V"⟩, 190) := ⟨⟨by decide +kernel, by decide +kernel⟩, List.mem_of_getElem? (i := 1843) (by decide +kernel), List.mem_of_getElem? (i := 2768) (by decide +kernel), List.mem_of_getElem? (i := 2769) (by decide +kernel)⟩
theorem lw_p211 : lw_okq (⟨"ExchangeHouseModel", "values", "(IIII)V"⟩, 190) := ⟨⟨by decide +kernel, by decide +kernel⟩, List.mem_of_getElem? (i := 1843) (by decide +kernel), List.mem_of_getElem? (i := 2772) (by decide +kernel), List.mem_of_getElem? (i := 2773) (by decide +kernel)⟩
theorem lw_p212 : lw_okq (⟨"ExchangeHouseModel", "fourth", "()V"⟩, 190) := ⟨⟨by decide +kernel, by decide +kernel⟩, List.mem_of_getElem? (i := 1843) (by decide +kernel), List.mem_of_getElem? (i := 2776) (by decide +kernel), List.mem_of_getElem? (i := 2777) (by decide +kernel)⟩
theorem lw_p213 : lw_okq (⟨"ExchangeHouseModel", "routeOf", "(J)I"⟩, 190) := ⟨⟨by decide +kernel, by decide +kernel⟩, List.mem_of_getElem? (i := 1843) (by decide +kernel), List.mem_of_getElem? (i := 2782) (by decide +kernel), List.mem_of_getElem? (i := 2783) (by decide +kernel)⟩
theorem lw_p214 : lw_okq (⟨"ExchangeHouseModel", "create", "(I)V"⟩, 190) := ⟨⟨by decide +kernel, by decide +kernel⟩, List.mem_of_getElem? (i := 1843) (by decide +kernel), List.mem_of_getElem? (i := 2786) (by decide +kernel), List.mem_of_getElem? (i := 2787) (by decide +kernel)⟩
theorem lw_p215 : lw_okq (⟨"ExchangeHouseModel", "assign", "(I)V"⟩, 190) := ⟨⟨by decide +kernel, by decide +kernel⟩, List.mem_of_getElem? (i := 1843) (by decide +kernel), List.mem_of_getElem? (i := 2790) (by decide +kernel), List.mem_of_getElem? (i := 2791) (by decide +kernel)⟩
theorem lw_p216 : lw_okq (⟨"ExchangeHouseModel", "behindPart", "()V"⟩, 190) := ⟨⟨by decide +kernel, by decide +kernel⟩, List.mem_of_getElem? (i := 1843) (by decide +kernel), List.mem_of_getElem? (i := 2794) (by decide +kernel), List.mem_of_getElem? (i := 2795) (by decide +kernel)⟩
theorem lw_p217 : lw_okq (⟨"ExchangeHouseModel", "stateLine", "()V"⟩, 190) := ⟨⟨by decide +kernel, by decide +kernel⟩, List.mem_of_getElem? (i := 1843) (by decide +kernel), List.mem_of_getElem? (i := 2798) (by decide +kernel), List.mem_of_getElem? (i := 2799) (by decide +kernel)⟩
theorem lw_p218 : lw_okq (⟨"ExchangeHouseModel", "stateHere", "(I)I"⟩, 190) := ⟨⟨by decide +kernel, by decide +kernel⟩, List.mem_of_getElem? (i := 1843) (by decide +kernel), List.mem_of_getElem? (i := 2802) (by decide +kernel), List.mem_of_getElem? (i := 2803) (by decide +kernel)⟩
theorem lw_p219 : lw_okq (⟨"ExchangeHouseModel", "input", "(I)V"⟩, 190) := ⟨⟨by decide +kernel, by decide +kernel⟩, List.mem_of_getElem? (i := 1843) (by decide +kernel), List.mem_of_getElem? (i := 2806) (by decide +kernel), List.mem_of_getElem? (i := 2807) (by decide +kernel)⟩
theorem lw_p220 : lw_okq (⟨"ExchangeHouseModel", "stim", "(II)I"⟩, 190) := ⟨⟨by decide +kernel, by decide +kernel⟩, List.mem_of_getElem? (i := 1843) (by decide +kernel), List.mem_of_getElem? (i := 2810) (by decide +kernel), List.mem_of_getElem? (i := 2811) (by decide +kernel)⟩
theorem lw_p221 : lw_okq (⟨"ExchangeHouseModel", "heard", "(IIZ)V"⟩, 190) := ⟨⟨by decide +kernel, by decide +kernel⟩, List.mem_of_getElem? (i := 1843) (by decide +kernel), List.mem_of_getElem? (i := 2814) (by decide +kernel), List.mem_of_getElem? (i := 2815) (by decide +kernel)⟩
theorem lw_p222 : lw_okq (⟨"ExchangeHouseModel", "again", "(III)V"⟩, 190) := ⟨⟨by decide +kernel, by decide +kernel⟩, List.mem_of_getElem? (i := 1843) (by decide +kernel), List.mem_of_getElem? (i := 2818) (by decide +kernel), List.mem_of_getElem? (i := 2819) (by decide +kernel)⟩
theorem lw_p223 : lw_okq (⟨"ExchangeHouseModel", "valuesOf", "(III)V"⟩, 190) := ⟨⟨by decide +kernel, by decide +kernel⟩, List.mem_of_getElem? (i := 1843) (by decide +kernel), List.mem_of_getElem? (i := 2822) (by decide +kernel), List.mem_of_getElem? (i := 2823) (by decide +kernel)⟩
def lw_privs_14 : List (MethodName × Nat) := [(⟨"ExchangeHouseModel", "isAct", "()Z"⟩, 190), (⟨"ExchangeHouseModel", "act", "()V"⟩, 190), (⟨"ExchangeHouseModel", "output", "(I)V"⟩, 190), (⟨"ExchangeHouseModel", "values", "(IIII)V"⟩, 190), (⟨"ExchangeHouseModel", "fourth", "()V"⟩, 190), (⟨"ExchangeHouseModel", "routeOf", "(J)I"⟩, 190), (⟨"ExchangeHouseModel", "create", "(I)V"⟩, 190), (⟨"ExchangeHouseModel", "assign", "(I)V"⟩, 190), (⟨"ExchangeHouseModel", "behindPart", "()V"⟩, 190), (⟨"ExchangeHouseModel", "stateLine", "()V"⟩, 190), (⟨"ExchangeHouseModel", "stateHere", "(I)I"⟩, 190), (⟨"ExchangeHouseModel", "input", "(I)V"⟩, 190), (⟨"ExchangeHouseModel", "stim", "(II)I"⟩, 190), (⟨"ExchangeHouseModel", "heard", "(IIZ)V"⟩, 190), (⟨"ExchangeHouseModel", "again", "(III)V"⟩, 190), (⟨"ExchangeHouseModel", "valuesOf", "(III)V"⟩, 190)]
theorem lw_r14 : ∀ q ∈ lw_privs_14, lw_okq q := List.forall_mem_cons.mpr ⟨lw_p208, List.forall_mem_cons.mpr ⟨lw_p209, List.forall_mem_cons.mpr ⟨lw_p210, List.forall_mem_cons.mpr ⟨lw_p211, List.forall_mem_cons.mpr ⟨lw_p212, List.forall_mem_cons.mpr ⟨lw_p213, List.forall_mem_cons.mpr ⟨lw_p214, List.forall_mem_cons.mpr ⟨lw_p215, List.forall_mem_cons.mpr ⟨lw_p216, List.forall_mem_cons.mpr ⟨lw_p217, List.forall_mem_cons.mpr ⟨lw_p218, List.forall_mem_cons.mpr ⟨lw_p219, List.forall_mem_cons.mpr ⟨lw_p220, List.forall_mem_cons.mpr ⟨lw_p221, List.forall_mem_cons.mpr ⟨lw_p222, List.forall_mem_cons.mpr ⟨lw_p223, fun _ h => absurd h List.not_mem_nil⟩⟩⟩⟩⟩⟩⟩⟩⟩⟩⟩⟩⟩⟩⟩⟩
theorem lw_p224 : lw_okq (⟨"ExchangeHouseModel", "into", "(IIIII)V"⟩, 190) := ⟨⟨by decide +kernel, by decide +kernel⟩, List.mem_of_getElem? (i := 1843) (by decide +kernel), List.mem_of_getElem? (i := 2826) (by decide +kernel), List.mem_of_getElem? (i := 2827) (by decide +kernel)⟩
theorem lw_p225 : lw_okq (⟨"ExchangeHouseModel", "save", "(I)V"⟩, 190) := ⟨⟨by decide +kernel, by decide +kernel⟩, List.mem_of_getElem? (i := 1843) (by decide +kernel), List.mem_of_getElem? (i := 2830) (by decide +kernel), List.mem_of_getElem? (i := 2831) (by decide +kernel)⟩
theorem lw_p226 : lw_okq (⟨"ExchangeHouseModel", "when", "(I)V"⟩, 190) := ⟨⟨by decide +kernel, by decide +kernel⟩, List.mem_of_getElem? (i := 1843) (by decide +kernel), List.mem_of_getElem? (i := 2834) (by decide +kernel), List.mem_of_getElem? (i := 2835) (by decide +kernel)⟩
theorem lw_p227 : lw_okq (⟨"ExchangeHouseModel", "endStim", "(I)V"⟩, 190) := ⟨⟨by decide +kernel, by decide +kernel⟩, List.mem_of_getElem? (i := 1843) (by decide +kernel), List.mem_of_getElem? (i := 2838) (by decide +kernel), List.mem_of_getElem? (i := 2839) (by decide +kernel)⟩
theorem lw_p228 : lw_okq (⟨"ExchangeHouseModel", "resolve", "()V"⟩, 190) := ⟨⟨by decide +kernel, by decide +kernel⟩, List.mem_of_getElem? (i := 1843) (by decide +kernel), List.mem_of_getElem? (i := 2842) (by decide +kernel), List.mem_of_getElem? (i := 2843) (by decide +kernel)⟩
theorem lw_p229 : lw_okq (⟨"ExchangeHouseModel", "warn", "()V"⟩, 190) := ⟨⟨by decide +kernel, by decide +kernel⟩, List.mem_of_getElem? (i := 1843) (by decide +kernel), List.mem_of_getElem? (i := 2847) (by decide +kernel), List.mem_of_getElem? (i := 2848) (by decide +kernel)⟩
theorem lw_p230 : lw_okq (⟨"ExchangeHouseModel", "come", "(I)V"⟩, 190) := ⟨⟨by decide +kernel, by decide +kernel⟩, List.mem_of_getElem? (i := 1843) (by decide +kernel), List.mem_of_getElem? (i := 2851) (by decide +kernel), List.mem_of_getElem? (i := 2852) (by decide +kernel)⟩
theorem lw_p231 : lw_okq (⟨"ExchangeHouseModel", "warnOf", "(II)V"⟩, 190) := ⟨⟨by decide +kernel, by decide +kernel⟩, List.mem_of_getElem? (i := 1843) (by decide +kernel), List.mem_of_getElem? (i := 2855) (by decide +kernel), List.mem_of_getElem? (i := 2856) (by decide +kernel)⟩
theorem lw_p232 : lw_okq (⟨"ExchangeHouseModel", "make", "(II)I"⟩, 190) := ⟨⟨by decide +kernel, by decide +kernel⟩, List.mem_of_getElem? (i := 1843) (by decide +kernel), List.mem_of_getElem? (i := 2871) (by decide +kernel), List.mem_of_getElem? (i := 2872) (by decide +kernel)⟩
theorem lw_p233 : lw_okq (⟨"ExchangeHouseModel", "write", "(IIII)V"⟩, 190) := ⟨⟨by decide +kernel, by decide +kernel⟩, List.mem_of_getElem? (i := 1843) (by decide +kernel), List.mem_of_getElem? (i := 2878) (by decide +kernel), List.mem_of_getElem? (i := 2879) (by decide +kernel)⟩
theorem lw_p234 : lw_okq (⟨"ExchangeHouseModel", "due", "()V"⟩, 190) := ⟨⟨by decide +kernel, by decide +kernel⟩, List.mem_of_getElem? (i := 1843) (by decide +kernel), List.mem_of_getElem? (i := 2886) (by decide +kernel), List.mem_of_getElem? (i := 2887) (by decide +kernel)⟩
theorem lw_p235 : lw_okq (⟨"ExchangeHouseModel", "firstOf", "(I)V"⟩, 190) := ⟨⟨by decide +kernel, by decide +kernel⟩, List.mem_of_getElem? (i := 1843) (by decide +kernel), List.mem_of_getElem? (i := 2893) (by decide +kernel), List.mem_of_getElem? (i := 2894) (by decide +kernel)⟩
theorem lw_p236 : lw_okq (⟨"ExchangeHouseModel", "arrive", "(III)V"⟩, 190) := ⟨⟨by decide +kernel, by decide +kernel⟩, List.mem_of_getElem? (i := 1843) (by decide +kernel), List.mem_of_getElem? (i := 2897) (by decide +kernel), List.mem_of_getElem? (i := 2898) (by decide +kernel)⟩
theorem lw_p237 : lw_okq (⟨"ExchangeHouseModel", "writeOut", "(II)V"⟩, 190) := ⟨⟨by decide +kernel, by decide +kernel⟩, List.mem_of_getElem? (i := 1843) (by decide +kernel), List.mem_of_getElem? (i := 2901) (by decide +kernel), List.mem_of_getElem? (i := 2902) (by decide +kernel)⟩
theorem lw_p238 : lw_okq (⟨"ExchangeHouseModel", "slotOf", "(I)I"⟩, 190) := ⟨⟨by decide +kernel, by decide +kernel⟩, List.mem_of_getElem? (i := 1843) (by decide +kernel), List.mem_of_getElem? (i := 2905) (by decide +kernel), List.mem_of_getElem? (i := 2906) (by decide +kernel)⟩
theorem lw_p239 : lw_okq (⟨"ExchangeHouseModel", "queue", "(III)Z"⟩, 190) := ⟨⟨by decide +kernel, by decide +kernel⟩, List.mem_of_getElem? (i := 1843) (by decide +kernel), List.mem_of_getElem? (i := 2909) (by decide +kernel), List.mem_of_getElem? (i := 2910) (by decide +kernel)⟩
def lw_privs_15 : List (MethodName × Nat) := [(⟨"ExchangeHouseModel", "into", "(IIIII)V"⟩, 190), (⟨"ExchangeHouseModel", "save", "(I)V"⟩, 190), (⟨"ExchangeHouseModel", "when", "(I)V"⟩, 190), (⟨"ExchangeHouseModel", "endStim", "(I)V"⟩, 190), (⟨"ExchangeHouseModel", "resolve", "()V"⟩, 190), (⟨"ExchangeHouseModel", "warn", "()V"⟩, 190), (⟨"ExchangeHouseModel", "come", "(I)V"⟩, 190), (⟨"ExchangeHouseModel", "warnOf", "(II)V"⟩, 190), (⟨"ExchangeHouseModel", "make", "(II)I"⟩, 190), (⟨"ExchangeHouseModel", "write", "(IIII)V"⟩, 190), (⟨"ExchangeHouseModel", "due", "()V"⟩, 190), (⟨"ExchangeHouseModel", "firstOf", "(I)V"⟩, 190), (⟨"ExchangeHouseModel", "arrive", "(III)V"⟩, 190), (⟨"ExchangeHouseModel", "writeOut", "(II)V"⟩, 190), (⟨"ExchangeHouseModel", "slotOf", "(I)I"⟩, 190), (⟨"ExchangeHouseModel", "queue", "(III)Z"⟩, 190)]
theorem lw_r15 : ∀ q ∈ lw_privs_15, lw_okq q := List.forall_mem_cons.mpr ⟨lw_p224, List.forall_mem_cons.mpr ⟨lw_p225, List.forall_mem_cons.mpr ⟨lw_p226, List.forall_mem_cons.mpr ⟨lw_p227, List.forall_mem_cons.mpr ⟨lw_p228, List.forall_mem_cons.mpr ⟨lw_p229, List.forall_mem_cons.mpr ⟨lw_p230, List.forall_mem_cons.mpr ⟨lw_p231, List.forall_mem_cons.mpr ⟨lw_p232, List.forall_mem_cons.mpr ⟨lw_p233, List.forall_mem_cons.mpr ⟨lw_p234, List.forall_mem_cons.mpr ⟨lw_p235, List.forall_mem_cons.mpr ⟨lw_p236, List.forall_mem_cons.mpr ⟨lw_p237, List.forall_mem_cons.mpr ⟨lw_p238, List.forall_mem_cons.mpr ⟨lw_p239, fun _ h => absurd h List.not_mem_nil⟩⟩⟩⟩⟩⟩⟩⟩⟩⟩⟩⟩⟩⟩⟩⟩
theorem lw_p240 : lw_okq (⟨"ExchangeHouseModel", "lose", "(III)V"⟩, 190) := ⟨⟨by decide +kernel, by decide +kernel⟩, List.mem_of_getElem? (i := 1843) (by decide +kernel), List.mem_of_getElem? (i := 2913) (by decide +kernel), List.mem_of_getElem? (i := 2914) (by decide +kernel)⟩
theorem lw_p241 : lw_okq (⟨"ExchangeHouseModel", "timerComes", "(II)V"⟩, 190) := ⟨⟨by decide +kernel, by decide +kernel⟩, List.mem_of_getElem? (i := 1843) (by decide +kernel), List.mem_of_getElem? (i := 2917) (by decide +kernel), List.mem_of_getElem? (i := 2918) (by decide +kernel)⟩
theorem lw_p242 : lw_okq (⟨"ExchangeHouseModel", "ready", "()I"⟩, 190) := ⟨⟨by decide +kernel, by decide +kernel⟩, List.mem_of_getElem? (i := 1843) (by decide +kernel), List.mem_of_getElem? (i := 2921) (by decide +kernel), List.mem_of_getElem? (i := 2922) (by decide +kernel)⟩
theorem lw_p243 : lw_okq (⟨"ExchangeHouseModel", "stepOf", "(I)I"⟩, 190) := ⟨⟨by decide +kernel, by decide +kernel⟩, List.mem_of_getElem? (i := 1843) (by decide +kernel), List.mem_of_getElem? (i := 2925) (by decide +kernel), List.mem_of_getElem? (i := 2926) (by decide +kernel)⟩
theorem lw_p244 : lw_okq (⟨"ExchangeHouseModel", "listed", "(III)Z"⟩, 190) := ⟨⟨by decide +kernel, by decide +kernel⟩, List.mem_of_getElem? (i := 1843) (by decide +kernel), List.mem_of_getElem? (i := 2929) (by decide +kernel), List.mem_of_getElem? (i := 2930) (by decide +kernel)⟩
theorem lw_p245 : lw_okq (⟨"ExchangeHouseModel", "isTrue", "(II)Z"⟩, 190) := ⟨⟨by decide +kernel, by decide +kernel⟩, List.mem_of_getElem? (i := 1843) (by decide +kernel), List.mem_of_getElem? (i := 2933) (by decide +kernel), List.mem_of_getElem? (i := 2934) (by decide +kernel)⟩
theorem lw_p246 : lw_okq (⟨"ExchangeHouseModel", "work", "(II)I"⟩, 190) := ⟨⟨by decide +kernel, by decide +kernel⟩, List.mem_of_getElem? (i := 1843) (by decide +kernel), List.mem_of_getElem? (i := 2937) (by decide +kernel), List.mem_of_getElem? (i := 2938) (by decide +kernel)⟩
theorem lw_p247 : lw_okq (⟨"ExchangeHouseModel", "formStep", "(III)V"⟩, 190) := ⟨⟨by decide +kernel, by decide +kernel⟩, List.mem_of_getElem? (i := 1843) (by decide +kernel), List.mem_of_getElem? (i := 2941) (by decide +kernel), List.mem_of_getElem? (i := 2942) (by decide +kernel)⟩
theorem lw_p248 : lw_okq (⟨"ExchangeHouseModel", "push", "(I)V"⟩, 190) := ⟨⟨by decide +kernel, by decide +kernel⟩, List.mem_of_getElem? (i := 1843) (by decide +kernel), List.mem_of_getElem? (i := 2945) (by decide +kernel), List.mem_of_getElem? (i := 2946) (by decide +kernel)⟩
theorem lw_p249 : lw_okq (⟨"ExchangeHouseModel", "isActive", "(II)Z"⟩, 190) := ⟨⟨by decide +kernel, by decide +kernel⟩, List.mem_of_getElem? (i := 1843) (by decide +kernel), List.mem_of_getElem? (i := 2949) (by decide +kernel), List.mem_of_getElem? (i := 2950) (by decide +kernel)⟩
theorem lw_p250 : lw_okq (⟨"ExchangeHouseModel", "two", "(III)V"⟩, 190) := ⟨⟨by decide +kernel, by decide +kernel⟩, List.mem_of_getElem? (i := 1843) (by decide +kernel), List.mem_of_getElem? (i := 2953) (by decide +kernel), List.mem_of_getElem? (i := 2954) (by decide +kernel)⟩
theorem lw_p251 : lw_okq (⟨"ExchangeHouseModel", "step", "(II)V"⟩, 190) := ⟨⟨by decide +kernel, by decide +kernel⟩, List.mem_of_getElem? (i := 1843) (by decide +kernel), List.mem_of_getElem? (i := 2960) (by decide +kernel), List.mem_of_getElem? (i := 2961) (by decide +kernel)⟩
theorem lw_p252 : lw_okq (⟨"ExchangeHouseModel", "perform", "(II)V"⟩, 190) := ⟨⟨by decide +kernel, by decide +kernel⟩, List.mem_of_getElem? (i := 1843) (by decide +kernel), List.mem_of_getElem? (i := 2964) (by decide +kernel), List.mem_of_getElem? (i := 2965) (by decide +kernel)⟩
theorem lw_p253 : lw_okq (⟨"ExchangeHouseModel", "fail", "(III)V"⟩, 190) := ⟨⟨by decide +kernel, by decide +kernel⟩, List.mem_of_getElem? (i := 1843) (by decide +kernel), List.mem_of_getElem? (i := 2968) (by decide +kernel), List.mem_of_getElem? (i := 2969) (by decide +kernel)⟩
theorem lw_p254 : lw_okq (⟨"ExchangeHouseModel", "stop", "(I)V"⟩, 190) := ⟨⟨by decide +kernel, by decide +kernel⟩, List.mem_of_getElem? (i := 1843) (by decide +kernel), List.mem_of_getElem? (i := 2972) (by decide +kernel), List.mem_of_getElem? (i := 2973) (by decide +kernel)⟩
theorem lw_p255 : lw_okq (⟨"ExchangeHouseModel", "goal", "(II)I"⟩, 190) := ⟨⟨by decide +kernel, by decide +kernel⟩, List.mem_of_getElem? (i := 1843) (by decide +kernel), List.mem_of_getElem? (i := 2976) (by decide +kernel), List.mem_of_getElem? (i := 2977) (by decide +kernel)⟩
def lw_privs_16 : List (MethodName × Nat) := [(⟨"ExchangeHouseModel", "lose", "(III)V"⟩, 190), (⟨"ExchangeHouseModel", "timerComes", "(II)V"⟩, 190), (⟨"ExchangeHouseModel", "ready", "()I"⟩, 190), (⟨"ExchangeHouseModel", "stepOf", "(I)I"⟩, 190), (⟨"ExchangeHouseModel", "listed", "(III)Z"⟩, 190), (⟨"ExchangeHouseModel", "isTrue", "(II)Z"⟩, 190), (⟨"ExchangeHouseModel", "work", "(II)I"⟩, 190), (⟨"ExchangeHouseModel", "formStep", "(III)V"⟩, 190), (⟨"ExchangeHouseModel", "push", "(I)V"⟩, 190), (⟨"ExchangeHouseModel", "isActive", "(II)Z"⟩, 190), (⟨"ExchangeHouseModel", "two", "(III)V"⟩, 190), (⟨"ExchangeHouseModel", "step", "(II)V"⟩, 190), (⟨"ExchangeHouseModel", "perform", "(II)V"⟩, 190), (⟨"ExchangeHouseModel", "fail", "(III)V"⟩, 190), (⟨"ExchangeHouseModel", "stop", "(I)V"⟩, 190), (⟨"ExchangeHouseModel", "goal", "(II)I"⟩, 190)]
theorem lw_r16 : ∀ q ∈ lw_privs_16, lw_okq q := List.forall_mem_cons.mpr ⟨lw_p240, List.forall_mem_cons.mpr ⟨lw_p241, List.forall_mem_cons.mpr ⟨lw_p242, List.forall_mem_cons.mpr ⟨lw_p243, List.forall_mem_cons.mpr ⟨lw_p244, List.forall_mem_cons.mpr ⟨lw_p245, List.forall_mem_cons.mpr ⟨lw_p246, List.forall_mem_cons.mpr ⟨lw_p247, List.forall_mem_cons.mpr ⟨lw_p248, List.forall_mem_cons.mpr ⟨lw_p249, List.forall_mem_cons.mpr ⟨lw_p250, List.forall_mem_cons.mpr ⟨lw_p251, List.forall_mem_cons.mpr ⟨lw_p252, List.forall_mem_cons.mpr ⟨lw_p253, List.forall_mem_cons.mpr ⟨lw_p254, List.forall_mem_cons.mpr ⟨lw_p255, fun _ h => absurd h List.not_mem_nil⟩⟩⟩⟩⟩⟩⟩⟩⟩⟩⟩⟩⟩⟩⟩⟩
theorem lw_p256 : lw_okq (⟨"ExchangeHouseModel", "does", "(II)I"⟩, 190) := ⟨⟨by decide +kernel, by decide +kernel⟩, List.mem_of_getElem? (i := 1843) (by decide +kernel), List.mem_of_getElem? (i := 2980) (by decide +kernel), List.mem_of_getElem? (i := 2981) (by decide +kernel)⟩
theorem lw_p257 : lw_okq (⟨"ExchangeHouseModel", "assigns", "(II)I"⟩, 190) := ⟨⟨by decide +kernel, by decide +kernel⟩, List.mem_of_getElem? (i := 1843) (by decide +kernel), List.mem_of_getElem? (i := 2984) (by decide +kernel), List.mem_of_getElem? (i := 2985) (by decide +kernel)⟩
theorem lw_p258 : lw_okq (⟨"ExchangeHouseModel", "unset", "(II)V"⟩, 190) := ⟨⟨by decide +kernel, by decide +kernel⟩, List.mem_of_getElem? (i := 1843) (by decide +kernel), List.mem_of_getElem? (i := 2988) (by decide +kernel), List.mem_of_getElem? (i := 2989) (by decide +kernel)⟩
theorem lw_p259 : lw_okq (⟨"ExchangeHouseModel", "unqueue", "(II)V"⟩, 190) := ⟨⟨by decide +kernel, by decide +kernel⟩, List.mem_of_getElem? (i := 1843) (by decide +kernel), List.mem_of_getElem? (i := 2992) (by decide +kernel), List.mem_of_getElem? (i := 2993) (by decide +kernel)⟩
theorem lw_p260 : lw_okq (⟨"ExchangeHouseModel", "makes", "(II)I"⟩, 190) := ⟨⟨by decide +kernel, by decide +kernel⟩, List.mem_of_getElem? (i := 1843) (by decide +kernel), List.mem_of_getElem? (i := 2998) (by decide +kernel), List.mem_of_getElem? (i := 2999) (by decide +kernel)⟩
theorem lw_p261 : lw_okq (⟨"ExchangeHouseModel", "workAll", "(II)I"⟩, 190) := ⟨⟨by decide +kernel, by decide +kernel⟩, List.mem_of_getElem? (i := 1843) (by decide +kernel), List.mem_of_getElem? (i := 3002) (by decide +kernel), List.mem_of_getElem? (i := 3003) (by decide +kernel)⟩
theorem lw_p262 : lw_okq (⟨"ExchangeHouseModel", "sends", "(II)I"⟩, 190) := ⟨⟨by decide +kernel, by decide +kernel⟩, List.mem_of_getElem? (i := 1843) (by decide +kernel), List.mem_of_getElem? (i := 3006) (by decide +kernel), List.mem_of_getElem? (i := 3007) (by decide +kernel)⟩
theorem lw_p263 : lw_okq (⟨"ExchangeHouseModel", "route", "(IIIZ)I"⟩, 190) := ⟨⟨by decide +kernel, by decide +kernel⟩, List.mem_of_getElem? (i := 1843) (by decide +kernel), List.mem_of_getElem? (i := 3010) (by decide +kernel), List.mem_of_getElem? (i := 3011) (by decide +kernel)⟩
theorem lw_p264 : lw_okq (⟨"ExchangeHouseModel", "least", "(I)I"⟩, 190) := ⟨⟨by decide +kernel, by decide +kernel⟩, List.mem_of_getElem? (i := 1843) (by decide +kernel), List.mem_of_getElem? (i := 3014) (by decide +kernel), List.mem_of_getElem? (i := 3015) (by decide +kernel)⟩
theorem lw_p265 : lw_okq (⟨"ExchangeHouseModel", "send", "(IIII)V"⟩, 190) := ⟨⟨by decide +kernel, by decide +kernel⟩, List.mem_of_getElem? (i := 1843) (by decide +kernel), List.mem_of_getElem? (i := 3018) (by decide +kernel), List.mem_of_getElem? (i := 3019) (by decide +kernel)⟩
theorem lw_p266 : lw_okq (⟨"ExchangeHouseModel", "timeOn", "(II)I"⟩, 190) := ⟨⟨by decide +kernel, by decide +kernel⟩, List.mem_of_getElem? (i := 1843) (by decide +kernel), List.mem_of_getElem? (i := 3022) (by decide +kernel), List.mem_of_getElem? (i := 3023) (by decide +kernel)⟩
theorem lw_p267 : lw_okq (⟨"ExchangeHouseModel", "leastTime", "()I"⟩, 190) := ⟨⟨by decide +kernel, by decide +kernel⟩, List.mem_of_getElem? (i := 1843) (by decide +kernel), List.mem_of_getElem? (i := 3027) (by decide +kernel), List.mem_of_getElem? (i := 3028) (by decide +kernel)⟩
theorem lw_p268 : lw_okq (⟨"ExchangeHouseModel", "freely", "(II)I"⟩, 190) := ⟨⟨by decide +kernel, by decide +kernel⟩, List.mem_of_getElem? (i := 1843) (by decide +kernel), List.mem_of_getElem? (i := 3039) (by decide +kernel), List.mem_of_getElem? (i := 3040) (by decide +kernel)⟩
theorem lw_p269 : lw_okq (⟨"ExchangeHouseModel", "spontaneous", "(II)V"⟩, 190) := ⟨⟨by decide +kernel, by decide +kernel⟩, List.mem_of_getElem? (i := 1843) (by decide +kernel), List.mem_of_getElem? (i := 3043) (by decide +kernel), List.mem_of_getElem? (i := 3044) (by decide +kernel)⟩
theorem lw_p270 : lw_okq (⟨"ExchangeHouseModel", "slotAsked", "(I)I"⟩, 190) := ⟨⟨by decide +kernel, by decide +kernel⟩, List.mem_of_getElem? (i := 1843) (by decide +kernel), List.mem_of_getElem? (i := 3064) (by decide +kernel), List.mem_of_getElem? (i := 3065) (by decide +kernel)⟩
theorem lw_p271 : lw_okq (⟨"ExchangeHouseModel", "counted", "(I)I"⟩, 190) := ⟨⟨by decide +kernel, by decide +kernel⟩, List.mem_of_getElem? (i := 1843) (by decide +kernel), List.mem_of_getElem? (i := 3096) (by decide +kernel), List.mem_of_getElem? (i := 3097) (by decide +kernel)⟩
def lw_privs_17 : List (MethodName × Nat) := [(⟨"ExchangeHouseModel", "does", "(II)I"⟩, 190), (⟨"ExchangeHouseModel", "assigns", "(II)I"⟩, 190), (⟨"ExchangeHouseModel", "unset", "(II)V"⟩, 190), (⟨"ExchangeHouseModel", "unqueue", "(II)V"⟩, 190), (⟨"ExchangeHouseModel", "makes", "(II)I"⟩, 190), (⟨"ExchangeHouseModel", "workAll", "(II)I"⟩, 190), (⟨"ExchangeHouseModel", "sends", "(II)I"⟩, 190), (⟨"ExchangeHouseModel", "route", "(IIIZ)I"⟩, 190), (⟨"ExchangeHouseModel", "least", "(I)I"⟩, 190), (⟨"ExchangeHouseModel", "send", "(IIII)V"⟩, 190), (⟨"ExchangeHouseModel", "timeOn", "(II)I"⟩, 190), (⟨"ExchangeHouseModel", "leastTime", "()I"⟩, 190), (⟨"ExchangeHouseModel", "freely", "(II)I"⟩, 190), (⟨"ExchangeHouseModel", "spontaneous", "(II)V"⟩, 190), (⟨"ExchangeHouseModel", "slotAsked", "(I)I"⟩, 190), (⟨"ExchangeHouseModel", "counted", "(I)I"⟩, 190)]
theorem lw_r17 : ∀ q ∈ lw_privs_17, lw_okq q := List.forall_mem_cons.mpr ⟨lw_p256, List.forall_mem_cons.mpr ⟨lw_p257, List.forall_mem_cons.mpr ⟨lw_p258, List.forall_mem_cons.mpr ⟨lw_p259, List.forall_mem_cons.mpr ⟨lw_p260, List.forall_mem_cons.mpr ⟨lw_p261, List.forall_mem_cons.mpr ⟨lw_p262, List.forall_mem_cons.mpr ⟨lw_p263, List.forall_mem_cons.mpr ⟨lw_p264, List.forall_mem_cons.mpr ⟨lw_p265, List.forall_mem_cons.mpr ⟨lw_p266, List.forall_mem_cons.mpr ⟨lw_p267, List.forall_mem_cons.mpr ⟨lw_p268, List.forall_mem_cons.mpr ⟨lw_p269, List.forall_mem_cons.mpr ⟨lw_p270, List.forall_mem_cons.mpr ⟨lw_p271, fun _ h => absurd h List.not_mem_nil⟩⟩⟩⟩⟩⟩⟩⟩⟩⟩⟩⟩⟩⟩⟩⟩
theorem lw_p272 : lw_okq (⟨"ExchangeHouseModel", "plain", "()V"⟩, 190) := ⟨⟨by decide +kernel, by decide +kernel⟩, List.mem_of_getElem? (i := 1843) (by decide +kernel), List.mem_of_getElem? (i := 3108) (by decide +kernel), List.mem_of_getElem? (i := 3109) (by decide +kernel)⟩
theorem lw_p273 : lw_okq (⟨"ExchangeHouseModel", "sum", "()I"⟩, 190) := ⟨⟨by decide +kernel, by decide +kernel⟩, List.mem_of_getElem? (i := 1843) (by decide +kernel), List.mem_of_getElem? (i := 3112) (by decide +kernel), List.mem_of_getElem? (i := 3113) (by decide +kernel)⟩
theorem lw_p274 : lw_okq (⟨"ExchangeHouseModel", "keep", "(III)V"⟩, 190) := ⟨⟨by decide +kernel, by decide +kernel⟩, List.mem_of_getElem? (i := 1843) (by decide +kernel), List.mem_of_getElem? (i := 3116) (by decide +kernel), List.mem_of_getElem? (i := 3117) (by decide +kernel)⟩
theorem lw_p275 : lw_okq (⟨"ExchangeHouseModel", "stepsOf", "(I)V"⟩, 190) := ⟨⟨by decide +kernel, by decide +kernel⟩, List.mem_of_getElem? (i := 1843) (by decide +kernel), List.mem_of_getElem? (i := 3120) (by decide +kernel), List.mem_of_getElem? (i := 3121) (by decide +kernel)⟩
theorem lw_p276 : lw_okq (⟨"ExchangeHouseModel", "tries", "(I)V"⟩, 190) := ⟨⟨by decide +kernel, by decide +kernel⟩, List.mem_of_getElem? (i := 1843) (by decide +kernel), List.mem_of_getElem? (i := 3124) (by decide +kernel), List.mem_of_getElem? (i := 3125) (by decide +kernel)⟩
theorem lw_p277 : lw_okq (⟨"ExchangeHouseModel", "load1", "(I)V"⟩, 190) := ⟨⟨by decide +kernel, by decide +kernel⟩, List.mem_of_getElem? (i := 1843) (by decide +kernel), List.mem_of_getElem? (i := 3128) (by decide +kernel), List.mem_of_getElem? (i := 3129) (by decide +kernel)⟩
theorem lw_p278 : lw_okq (⟨"ExchangeHouseModel", "moved", "(I)V"⟩, 190) := ⟨⟨by decide +kernel, by decide +kernel⟩, List.mem_of_getElem? (i := 1843) (by decide +kernel), List.mem_of_getElem? (i := 3132) (by decide +kernel), List.mem_of_getElem? (i := 3133) (by decide +kernel)⟩
theorem lw_p279 : lw_okq (⟨"ExchangeHouseModel", "isState", "(II)Z"⟩, 190) := ⟨⟨by decide +kernel, by decide +kernel⟩, List.mem_of_getElem? (i := 1843) (by decide +kernel), List.mem_of_getElem? (i := 3136) (by decide +kernel), List.mem_of_getElem? (i := 3137) (by decide +kernel)⟩
theorem lw_p280 : lw_okq (⟨"ExchangeHouseModel", "arrivalsOf", "(I)V"⟩, 190) := ⟨⟨by decide +kernel, by decide +kernel⟩, List.mem_of_getElem? (i := 1843) (by decide +kernel), List.mem_of_getElem? (i := 3140) (by decide +kernel), List.mem_of_getElem? (i := 3141) (by decide +kernel)⟩
theorem lw_p281 : lw_okq (⟨"ExchangeHouseModel", "timersOf", "(I)V"⟩, 190) := ⟨⟨by decide +kernel, by decide +kernel⟩, List.mem_of_getElem? (i := 1843) (by decide +kernel), List.mem_of_getElem? (i := 3144) (by decide +kernel), List.mem_of_getElem? (i := 3145) (by decide +kernel)⟩
theorem lw_p282 : lw_okq (⟨"ExchangeHouseModel", "freeOf", "(I)V"⟩, 190) := ⟨⟨by decide +kernel, by decide +kernel⟩, List.mem_of_getElem? (i := 1843) (by decide +kernel), List.mem_of_getElem? (i := 3148) (by decide +kernel), List.mem_of_getElem? (i := 3149) (by decide +kernel)⟩
theorem lw_p283 : lw_okq (⟨"ExchangeHouseModel", "waitsAny", "(I)Z"⟩, 190) := ⟨⟨by decide +kernel, by decide +kernel⟩, List.mem_of_getElem? (i := 1843) (by decide +kernel), List.mem_of_getElem? (i := 3160) (by decide +kernel), List.mem_of_getElem? (i := 3161) (by decide +kernel)⟩
theorem lw_p284 : lw_okq (⟨"ExchangeHouseModel", "isIn", "(III)Z"⟩, 190) := ⟨⟨by decide +kernel, by decide +kernel⟩, List.mem_of_getElem? (i := 1843) (by decide +kernel), List.mem_of_getElem? (i := 3164) (by decide +kernel), List.mem_of_getElem? (i := 3165) (by decide +kernel)⟩
theorem lw_p285 : lw_okq (⟨"ExchangeHouseModel", "chartText", "()V"⟩, 190) := ⟨⟨by decide +kernel, by decide +kernel⟩, List.mem_of_getElem? (i := 1843) (by decide +kernel), List.mem_of_getElem? (i := 3176) (by decide +kernel), List.mem_of_getElem? (i := 3177) (by decide +kernel)⟩
theorem lw_p286 : lw_okq (⟨"ExchangeHouseModel", "inst", "()V"⟩, 190) := ⟨⟨by decide +kernel, by decide +kernel⟩, List.mem_of_getElem? (i := 1843) (by decide +kernel), List.mem_of_getElem? (i := 3180) (by decide +kernel), List.mem_of_getElem? (i := 3181) (by decide +kernel)⟩
theorem lw_p287 : lw_okq (⟨"ExchangeHouseModel", "instOf", "(J)I"⟩, 190) := ⟨⟨by decide +kernel, by decide +kernel⟩, List.mem_of_getElem? (i := 1843) (by decide +kernel), List.mem_of_getElem? (i := 3184) (by decide +kernel), List.mem_of_getElem? (i := 3185) (by decide +kernel)⟩
def lw_privs_18 : List (MethodName × Nat) := [(⟨"ExchangeHouseModel", "plain", "()V"⟩, 190), (⟨"ExchangeHouseModel", "sum", "()I"⟩, 190), (⟨"ExchangeHouseModel", "keep", "(III)V"⟩, 190), (⟨"ExchangeHouseModel", "stepsOf", "(I)V"⟩, 190), (⟨"ExchangeHouseModel", "tries", "(I)V"⟩, 190), (⟨"ExchangeHouseModel", "load1", "(I)V"⟩, 190), (⟨"ExchangeHouseModel", "moved", "(I)V"⟩, 190), (⟨"ExchangeHouseModel", "isState", "(II)Z"⟩, 190), (⟨"ExchangeHouseModel", "arrivalsOf", "(I)V"⟩, 190), (⟨"ExchangeHouseModel", "timersOf", "(I)V"⟩, 190), (⟨"ExchangeHouseModel", "freeOf", "(I)V"⟩, 190), (⟨"ExchangeHouseModel", "waitsAny", "(I)Z"⟩, 190), (⟨"ExchangeHouseModel", "isIn", "(III)Z"⟩, 190), (⟨"ExchangeHouseModel", "chartText", "()V"⟩, 190), (⟨"ExchangeHouseModel", "inst", "()V"⟩, 190), (⟨"ExchangeHouseModel", "instOf", "(J)I"⟩, 190)]
theorem lw_r18 : ∀ q ∈ lw_privs_18, lw_okq q := List.forall_mem_cons.mpr ⟨lw_p272, List.forall_mem_cons.mpr ⟨lw_p273, List.forall_mem_cons.mpr ⟨lw_p274, List.forall_mem_cons.mpr ⟨lw_p275, List.forall_mem_cons.mpr ⟨lw_p276, List.forall_mem_cons.mpr ⟨lw_p277, List.forall_mem_cons.mpr ⟨lw_p278, List.forall_mem_cons.mpr ⟨lw_p279, List.forall_mem_cons.mpr ⟨lw_p280, List.forall_mem_cons.mpr ⟨lw_p281, List.forall_mem_cons.mpr ⟨lw_p282, List.forall_mem_cons.mpr ⟨lw_p283, List.forall_mem_cons.mpr ⟨lw_p284, List.forall_mem_cons.mpr ⟨lw_p285, List.forall_mem_cons.mpr ⟨lw_p286, List.forall_mem_cons.mpr ⟨lw_p287, fun _ h => absurd h List.not_mem_nil⟩⟩⟩⟩⟩⟩⟩⟩⟩⟩⟩⟩⟩⟩⟩⟩
theorem lw_p288 : lw_okq (⟨"ExchangeHouseModel", "line", "()V"⟩, 190) := ⟨⟨by decide +kernel, by decide +kernel⟩, List.mem_of_getElem? (i := 1843) (by decide +kernel), List.mem_of_getElem? (i := 3188) (by decide +kernel), List.mem_of_getElem? (i := 3189) (by decide +kernel)⟩
theorem lw_p289 : lw_okq (⟨"ExchangeHouseModel", "party", "()I"⟩, 190) := ⟨⟨by decide +kernel, by decide +kernel⟩, List.mem_of_getElem? (i := 1843) (by decide +kernel), List.mem_of_getElem? (i := 3192) (by decide +kernel), List.mem_of_getElem? (i := 3193) (by decide +kernel)⟩
theorem lw_p290 : lw_okq (⟨"ExchangeHouseModel", "block", "()V"⟩, 190) := ⟨⟨by decide +kernel, by decide +kernel⟩, List.mem_of_getElem? (i := 1843) (by decide +kernel), List.mem_of_getElem? (i := 3196) (by decide +kernel), List.mem_of_getElem? (i := 3197) (by decide +kernel)⟩
theorem lw_p291 : lw_okq (⟨"ExchangeHouseModel", "orRow", "()V"⟩, 190) := ⟨⟨by decide +kernel, by decide +kernel⟩, List.mem_of_getElem? (i := 1843) (by decide +kernel), List.mem_of_getElem? (i := 3200) (by decide +kernel), List.mem_of_getElem? (i := 3201) (by decide +kernel)⟩
theorem lw_p292 : lw_okq (⟨"ExchangeHouseModel", "judge", "()V"⟩, 190) := ⟨⟨by decide +kernel, by decide +kernel⟩, List.mem_of_getElem? (i := 1843) (by decide +kernel), List.mem_of_getElem? (i := 3204) (by decide +kernel), List.mem_of_getElem? (i := 3205) (by decide +kernel)⟩
theorem lw_p293 : lw_okq (⟨"ExchangeHouseModel", "allKeep", "()Z"⟩, 190) := ⟨⟨by decide +kernel, by decide +kernel⟩, List.mem_of_getElem? (i := 1843) (by decide +kernel), List.mem_of_getElem? (i := 3208) (by decide +kernel), List.mem_of_getElem? (i := 3209) (by decide +kernel)⟩
theorem lw_p294 : lw_okq (⟨"ExchangeHouseModel", "keeps", "(I)Z"⟩, 190) := ⟨⟨by decide +kernel, by decide +kernel⟩, List.mem_of_getElem? (i := 1843) (by decide +kernel), List.mem_of_getElem? (i := 3212) (by decide +kernel), List.mem_of_getElem? (i := 3213) (by decide +kernel)⟩
theorem lw_p295 : lw_okq (⟨"ExchangeHouseModel", "isChosen", "(I)Z"⟩, 190) := ⟨⟨by decide +kernel, by decide +kernel⟩, List.mem_of_getElem? (i := 1843) (by decide +kernel), List.mem_of_getElem? (i := 3216) (by decide +kernel), List.mem_of_getElem? (i := 3217) (by decide +kernel)⟩
theorem lw_p296 : lw_okq (⟨"ExchangeHouseModel", "isNext", "(IIII)Z"⟩, 190) := ⟨⟨by decide +kernel, by decide +kernel⟩, List.mem_of_getElem? (i := 1843) (by decide +kernel), List.mem_of_getElem? (i := 3220) (by decide +kernel), List.mem_of_getElem? (i := 3221) (by decide +kernel)⟩
theorem lw_p297 : lw_okq (⟨"ExchangeHouseModel", "nextEvent", "(II)I"⟩, 190) := ⟨⟨by decide +kernel, by decide +kernel⟩, List.mem_of_getElem? (i := 1843) (by decide +kernel), List.mem_of_getElem? (i := 3224) (by decide +kernel), List.mem_of_getElem? (i := 3225) (by decide +kernel)⟩
theorem lw_p298 : lw_okq (⟨"ExchangeHouseModel", "isNamed", "(I)Z"⟩, 190) := ⟨⟨by decide +kernel, by decide +kernel⟩, List.mem_of_getElem? (i := 1843) (by decide +kernel), List.mem_of_getElem? (i := 3228) (by decide +kernel), List.mem_of_getElem? (i := 3229) (by decide +kernel)⟩
theorem lw_p299 : lw_okq (⟨"ExchangeHouseModel", "changes", "()Z"⟩, 190) := ⟨⟨by decide +kernel, by decide +kernel⟩, List.mem_of_getElem? (i := 1843) (by decide +kernel), List.mem_of_getElem? (i := 3232) (by decide +kernel), List.mem_of_getElem? (i := 3233) (by decide +kernel)⟩
def lw_privs_19 : List (MethodName × Nat) := [(⟨"ExchangeHouseModel", "line", "()V"⟩, 190), (⟨"ExchangeHouseModel", "party", "()I"⟩, 190), (⟨"ExchangeHouseModel", "block", "()V"⟩, 190), (⟨"ExchangeHouseModel", "orRow", "()V"⟩, 190), (⟨"ExchangeHouseModel", "judge", "()V"⟩, 190), (⟨"ExchangeHouseModel", "allKeep", "()Z"⟩, 190), (⟨"ExchangeHouseModel", "keeps", "(I)Z"⟩, 190), (⟨"ExchangeHouseModel", "isChosen", "(I)Z"⟩, 190), (⟨"ExchangeHouseModel", "isNext", "(IIII)Z"⟩, 190), (⟨"ExchangeHouseModel", "nextEvent", "(II)I"⟩, 190), (⟨"ExchangeHouseModel", "isNamed", "(I)Z"⟩, 190), (⟨"ExchangeHouseModel", "changes", "()Z"⟩, 190)]
theorem lw_r19 : ∀ q ∈ lw_privs_19, lw_okq q := List.forall_mem_cons.mpr ⟨lw_p288, List.forall_mem_cons.mpr ⟨lw_p289, List.forall_mem_cons.mpr ⟨lw_p290, List.forall_mem_cons.mpr ⟨lw_p291, List.forall_mem_cons.mpr ⟨lw_p292, List.forall_mem_cons.mpr ⟨lw_p293, List.forall_mem_cons.mpr ⟨lw_p294, List.forall_mem_cons.mpr ⟨lw_p295, List.forall_mem_cons.mpr ⟨lw_p296, List.forall_mem_cons.mpr ⟨lw_p297, List.forall_mem_cons.mpr ⟨lw_p298, List.forall_mem_cons.mpr ⟨lw_p299, fun _ h => absurd h List.not_mem_nil⟩⟩⟩⟩⟩⟩⟩⟩⟩⟩⟩⟩
def lw_privs : List (MethodName × Nat) := lw_privs_1 ++ (lw_privs_2 ++ (lw_privs_3 ++ (lw_privs_4 ++ (lw_privs_5 ++ (lw_privs_6 ++ (lw_privs_7 ++ (lw_privs_8 ++ (lw_privs_9 ++ (lw_privs_10 ++ (lw_privs_11 ++ (lw_privs_12 ++ (lw_privs_13 ++ (lw_privs_14 ++ (lw_privs_15 ++ (lw_privs_16 ++ (lw_privs_17 ++ (lw_privs_18 ++ (lw_privs_19))))))))))))))))))
def lw_tbl : List Cond := k2_sels lw_privs ++ tables_1
theorem lw_privs_ok : ∀ q ∈ lw_privs, lw_okq q := by
  show ∀ q ∈ lw_privs_1 ++ (lw_privs_2 ++ (lw_privs_3 ++ (lw_privs_4 ++ (lw_privs_5 ++ (lw_privs_6 ++ (lw_privs_7 ++ (lw_privs_8 ++ (lw_privs_9 ++ (lw_privs_10 ++ (lw_privs_11 ++ (lw_privs_12 ++ (lw_privs_13 ++ (lw_privs_14 ++ (lw_privs_15 ++ (lw_privs_16 ++ (lw_privs_17 ++ (lw_privs_18 ++ (lw_privs_19)))))))))))))))))), lw_okq q
  exact List.forall_mem_append.mpr ⟨lw_r1, List.forall_mem_append.mpr ⟨lw_r2, List.forall_mem_append.mpr ⟨lw_r3, List.forall_mem_append.mpr ⟨lw_r4, List.forall_mem_append.mpr ⟨lw_r5, List.forall_mem_append.mpr ⟨lw_r6, List.forall_mem_append.mpr ⟨lw_r7, List.forall_mem_append.mpr ⟨lw_r8, List.forall_mem_append.mpr ⟨lw_r9, List.forall_mem_append.mpr ⟨lw_r10, List.forall_mem_append.mpr ⟨lw_r11, List.forall_mem_append.mpr ⟨lw_r12, List.forall_mem_append.mpr ⟨lw_r13, List.forall_mem_append.mpr ⟨lw_r14, List.forall_mem_append.mpr ⟨lw_r15, List.forall_mem_append.mpr ⟨lw_r16, List.forall_mem_append.mpr ⟨lw_r17, List.forall_mem_append.mpr ⟨lw_r18, lw_r19⟩⟩⟩⟩⟩⟩⟩⟩⟩⟩⟩⟩⟩⟩⟩⟩⟩⟩
end
section
/-! names: the classes, their fields, their methods (printed texts, renamed by program) -/
def RJu : String := "ExchangeHouse$Judge"
def TJu : u_T := fun k => match k with
  | 0 => ("ExchangeHouse$Judge", "tokens", "LExchangeHouse$Tokens;", true)
  | 1 => ("ExchangeHouse$Judge", "plan", "LExchangeHouse$Plan;", false)
  | 2 => ("ExchangeHouse$Judge", "kind", "LExchangeHouse$Kind;", false)
  | 3 => ("ExchangeHouse$Judge", "type", "I", false)
  | 4 => ("ExchangeHouse$Judge", "sorts", "[I", true)
  | 5 => ("ExchangeHouse$Judge", "firsts", "[I", true)
  | 6 => ("ExchangeHouse$Judge", "top", "I", false)
  | 7 => ("ExchangeHouse$Judge", "decides", "[I", true)
  | 8 => ("ExchangeHouse$Judge", "depth", "I", false)
  | _ => ("ExchangeHouse$Judge", "given", "I", false)
def tyJu : Nat → FieldType := fun k => match k with
  | 0 => .object "ExchangeHouse$Tokens"
  | 1 => .object "ExchangeHouse$Plan"
  | 2 => .object "ExchangeHouse$Kind"
  | 3 => .int
  | 4 => .array .int
  | 5 => .array .int
  | 6 => .int
  | 7 => .array .int
  | 8 => .int
  | _ => .int
theorem nmJu : ∀ a, a < 10 → ∀ b, b < 10 → a ≠ b → (TJu a).2.1 ≠ (TJu b).2.1 := by decide +kernel
theorem tyJu_ok : ∀ k, k < 10 → parseFieldDescriptor (TJu k).2.2.1 = some (tyJu k) := by decide +kernel
def RKd : String := "ExchangeHouse$Kind"
def TKd : u_T := fun k => match k with
  | 0 => ("ExchangeHouse$Kind", "variables", "LExchangeHouse$Names;", true)
  | 1 => ("ExchangeHouse$Kind", "timers", "LExchangeHouse$Names;", true)
  | 2 => ("ExchangeHouse$Kind", "states", "LExchangeHouse$Names;", true)
  | 3 => ("ExchangeHouse$Kind", "labels", "LExchangeHouse$Names;", true)
  | 4 => ("ExchangeHouse$Kind", "sort", "[I", true)
  | 5 => ("ExchangeHouse$Kind", "length", "[I", true)
  | 6 => ("ExchangeHouse$Kind", "cell", "[I", true)
  | 7 => ("ExchangeHouse$Kind", "labelAt", "[I", true)
  | 8 => ("ExchangeHouse$Kind", "pars", "I", false)
  | 9 => ("ExchangeHouse$Kind", "cells", "I", false)
  | 10 => ("ExchangeHouse$Kind", "least", "I", false)
  | 11 => ("ExchangeHouse$Kind", "most", "I", false)
  | 12 => ("ExchangeHouse$Kind", "entry", "I", false)
  | 13 => ("ExchangeHouse$Kind", "rowFrom", "I", false)
  | 14 => ("ExchangeHouse$Kind", "rowTo", "I", false)
  | 15 => ("ExchangeHouse$Kind", "codeFrom", "I", false)
  | _ => ("ExchangeHouse$Kind", "codeTo", "I", false)
def tyKd : Nat → FieldType := fun k => match k with
  | 0 => .object "ExchangeHouse$Names"
  | 1 => .object "ExchangeHouse$Names"
  | 2 => .object "ExchangeHouse$Names"
  | 3 => .object "ExchangeHouse$Names"
  | 4 => .array .int
  | 5 => .array .int
  | 6 => .array .int
  | 7 => .array .int
  | 8 => .int
  | 9 => .int
  | 10 => .int
  | 11 => .int
  | 12 => .int
  | 13 => .int
  | 14 => .int
  | 15 => .int
  | _ => .int
theorem nmKd : ∀ a, a < 17 → ∀ b, b < 17 → a ≠ b → (TKd a).2.1 ≠ (TKd b).2.1 := by decide +kernel
theorem tyKd_ok : ∀ k, k < 17 → parseFieldDescriptor (TKd k).2.2.1 = some (tyKd k) := by decide +kernel
def RLo : String := "ExchangeHouse$Log"
def TLo : u_T := fun k => match k with
  | 0 => ("ExchangeHouse$Log", "quiet", "Z", true)
  | 1 => ("ExchangeHouse$Log", "events", "[I", true)
  | 2 => ("ExchangeHouse$Log", "eventFrom", "I", false)
  | 3 => ("ExchangeHouse$Log", "eventSize", "I", false)
  | 4 => ("ExchangeHouse$Log", "outs", "[I", true)
  | 5 => ("ExchangeHouse$Log", "outFrom", "I", false)
  | 6 => ("ExchangeHouse$Log", "outSize", "I", false)
  | 7 => ("ExchangeHouse$Log", "made", "I", false)
  | 8 => ("ExchangeHouse$Log", "lost", "I", false)
  | 9 => ("ExchangeHouse$Log", "errors", "I", false)
  | 10 => ("ExchangeHouse$Log", "error", "I", false)
  | 11 => ("ExchangeHouse$Log", "errorPlace", "I", false)
  | 12 => ("ExchangeHouse$Log", "steps", "I", false)
  | _ => ("ExchangeHouse$Log", "outCount", "I", false)
def tyLo : Nat → FieldType := fun k => match k with
  | 0 => .boolean
  | 1 => .array .int
  | 2 => .int
  | 3 => .int
  | 4 => .array .int
  | 5 => .int
  | 6 => .int
  | 7 => .int
  | 8 => .int
  | 9 => .int
  | 10 => .int
  | 11 => .int
  | 12 => .int
  | _ => .int
theorem nmLo : ∀ a, a < 14 → ∀ b, b < 14 → a ≠ b → (TLo a).2.1 ≠ (TLo b).2.1 := by decide +kernel
theorem tyLo_ok : ∀ k, k < 14 → parseFieldDescriptor (TLo k).2.2.1 = some (tyLo k) := by decide +kernel
def RNa : String := "ExchangeHouse$Names"
def TNa : u_T := fun k => match k with
  | 0 => ("ExchangeHouse$Names", "name", "[J", true)
  | 1 => ("ExchangeHouse$Names", "place", "[I", true)
  | _ => ("ExchangeHouse$Names", "size", "I", false)
def tyNa : Nat → FieldType := fun k => match k with
  | 0 => .array .long
  | 1 => .array .int
  | _ => .int
theorem nmNa : ∀ a, a < 3 → ∀ b, b < 3 → a ≠ b → (TNa a).2.1 ≠ (TNa b).2.1 := by decide +kernel
theorem tyNa_ok : ∀ k, k < 3 → parseFieldDescriptor (TNa k).2.2.1 = some (tyNa k) := by decide +kernel
def RNe : String := "ExchangeHouse$Net"
def TNe : u_T := fun k => match k with
  | 0 => ("ExchangeHouse$Net", "pid", "[I", true)
  | 1 => ("ExchangeHouse$Net", "kind", "[I", true)
  | 2 => ("ExchangeHouse$Net", "at", "[I", true)
  | 3 => ("ExchangeHouse$Net", "sender", "[I", true)
  | 4 => ("ExchangeHouse$Net", "parent", "[I", true)
  | 5 => ("ExchangeHouse$Net", "offspring", "[I", true)
  | 6 => ("ExchangeHouse$Net", "queued", "[I", true)
  | 7 => ("ExchangeHouse$Net", "cells", "[I", true)
  | 8 => ("ExchangeHouse$Net", "timers", "[I", true)
  | 9 => ("ExchangeHouse$Net", "queue", "[I", true)
  | 10 => ("ExchangeHouse$Net", "rowSize", "[I", true)
  | 11 => ("ExchangeHouse$Net", "rows", "[I", true)
  | 12 => ("ExchangeHouse$Net", "alive", "I", false)
  | 13 => ("ExchangeHouse$Net", "nextPid", "I", false)
  | 14 => ("ExchangeHouse$Net", "now", "I", false)
  | 15 => ("ExchangeHouse$Net", "seed", "I", false)
  | _ => ("ExchangeHouse$Net", "last", "I", false)
def tyNe : Nat → FieldType := fun k => match k with
  | 0 => .array .int
  | 1 => .array .int
  | 2 => .array .int
  | 3 => .array .int
  | 4 => .array .int
  | 5 => .array .int
  | 6 => .array .int
  | 7 => .array .int
  | 8 => .array .int
  | 9 => .array .int
  | 10 => .array .int
  | 11 => .array .int
  | 12 => .int
  | 13 => .int
  | 14 => .int
  | 15 => .int
  | _ => .int
theorem nmNe : ∀ a, a < 17 → ∀ b, b < 17 → a ≠ b → (TNe a).2.1 ≠ (TNe b).2.1 := by decide +kernel
theorem tyNe_ok : ∀ k, k < 17 → parseFieldDescriptor (TNe k).2.2.1 = some (tyNe k) := by decide +kernel
def RPa : String := "ExchangeHouse$Parser"
def TPa : u_T := fun k => match k with
  | 0 => ("ExchangeHouse$Parser", "tokens", "LExchangeHouse$Tokens;", true)
  | 1 => ("ExchangeHouse$Parser", "plan", "LExchangeHouse$Plan;", false)
  | 2 => ("ExchangeHouse$Parser", "kind", "LExchangeHouse$Kind;", false)
  | 3 => ("ExchangeHouse$Parser", "where", "I", false)
  | 4 => ("ExchangeHouse$Parser", "mask", "I", false)
  | _ => ("ExchangeHouse$Parser", "ranges", "I", false)
def tyPa : Nat → FieldType := fun k => match k with
  | 0 => .object "ExchangeHouse$Tokens"
  | 1 => .object "ExchangeHouse$Plan"
  | 2 => .object "ExchangeHouse$Kind"
  | 3 => .int
  | 4 => .int
  | _ => .int
theorem nmPa : ∀ a, a < 6 → ∀ b, b < 6 → a ≠ b → (TPa a).2.1 ≠ (TPa b).2.1 := by decide +kernel
theorem tyPa_ok : ∀ k, k < 6 → parseFieldDescriptor (TPa k).2.2.1 = some (tyPa k) := by decide +kernel
def RPl : String := "ExchangeHouse$Plan"
def TPl : u_T := fun k => match k with
  | 0 => ("ExchangeHouse$Plan", "signals", "LExchangeHouse$Names;", true)
  | 1 => ("ExchangeHouse$Plan", "routes", "LExchangeHouse$Names;", true)
  | 2 => ("ExchangeHouse$Plan", "types", "LExchangeHouse$Names;", true)
  | 3 => ("ExchangeHouse$Plan", "kinds", "[LExchangeHouse$Kind;", true)
  | 4 => ("ExchangeHouse$Plan", "sorts", "[I", true)
  | 5 => ("ExchangeHouse$Plan", "from", "[I", true)
  | 6 => ("ExchangeHouse$Plan", "to", "[I", true)
  | 7 => ("ExchangeHouse$Plan", "carries", "[I", true)
  | 8 => ("ExchangeHouse$Plan", "low", "[I", true)
  | 9 => ("ExchangeHouse$Plan", "high", "[I", true)
  | 10 => ("ExchangeHouse$Plan", "op", "[I", true)
  | 11 => ("ExchangeHouse$Plan", "arg", "[I", true)
  | 12 => ("ExchangeHouse$Plan", "aux", "[I", true)
  | 13 => ("ExchangeHouse$Plan", "tok", "[I", true)
  | 14 => ("ExchangeHouse$Plan", "size", "I", false)
  | 15 => ("ExchangeHouse$Plan", "rows", "[I", true)
  | 16 => ("ExchangeHouse$Plan", "rowCount", "I", false)
  | 17 => ("ExchangeHouse$Plan", "table", "[I", true)
  | 18 => ("ExchangeHouse$Plan", "warnings", "[I", true)
  | _ => ("ExchangeHouse$Plan", "warningCount", "I", false)
def tyPl : Nat → FieldType := fun k => match k with
  | 0 => .object "ExchangeHouse$Names"
  | 1 => .object "ExchangeHouse$Names"
  | 2 => .object "ExchangeHouse$Names"
  | 3 => .array (.object "ExchangeHouse$Kind")
  | 4 => .array .int
  | 5 => .array .int
  | 6 => .array .int
  | 7 => .array .int
  | 8 => .array .int
  | 9 => .array .int
  | 10 => .array .int
  | 11 => .array .int
  | 12 => .array .int
  | 13 => .array .int
  | 14 => .int
  | 15 => .array .int
  | 16 => .int
  | 17 => .array .int
  | 18 => .array .int
  | _ => .int
theorem nmPl : ∀ a, a < 20 → ∀ b, b < 20 → a ≠ b → (TPl a).2.1 ≠ (TPl b).2.1 := by decide +kernel
theorem tyPl_ok : ∀ k, k < 20 → parseFieldDescriptor (TPl k).2.2.1 = some (tyPl k) := by decide +kernel
def RRu : String := "ExchangeHouse$Runner"
def TRu : u_T := fun k => match k with
  | 0 => ("ExchangeHouse$Runner", "net", "LExchangeHouse$Net;", true)
  | 1 => ("ExchangeHouse$Runner", "log", "LExchangeHouse$Log;", true)
  | 2 => ("ExchangeHouse$Runner", "plan", "LExchangeHouse$Plan;", false)
  | 3 => ("ExchangeHouse$Runner", "stack", "[I", true)
  | 4 => ("ExchangeHouse$Runner", "top", "I", false)
  | 5 => ("ExchangeHouse$Runner", "error", "I", false)
  | 6 => ("ExchangeHouse$Runner", "acts", "I", false)
  | 7 => ("ExchangeHouse$Runner", "place", "I", false)
  | 8 => ("ExchangeHouse$Runner", "decided", "I", false)
  | 9 => ("ExchangeHouse$Runner", "matched", "Z", false)
  | 10 => ("ExchangeHouse$Runner", "message", "[I", true)
  | 11 => ("ExchangeHouse$Runner", "outgoing", "I", false)
  | 12 => ("ExchangeHouse$Runner", "pickedSignal", "I", false)
  | 13 => ("ExchangeHouse$Runner", "pickedRow", "I", false)
  | 14 => ("ExchangeHouse$Runner", "pickedStep", "I", false)
  | _ => ("ExchangeHouse$Runner", "searching", "Z", false)
def tyRu : Nat → FieldType := fun k => match k with
  | 0 => .object "ExchangeHouse$Net"
  | 1 => .object "ExchangeHouse$Log"
  | 2 => .object "ExchangeHouse$Plan"
  | 3 => .array .int
  | 4 => .int
  | 5 => .int
  | 6 => .int
  | 7 => .int
  | 8 => .int
  | 9 => .boolean
  | 10 => .array .int
  | 11 => .int
  | 12 => .int
  | 13 => .int
  | 14 => .int
  | _ => .boolean
theorem nmRu : ∀ a, a < 16 → ∀ b, b < 16 → a ≠ b → (TRu a).2.1 ≠ (TRu b).2.1 := by decide +kernel
theorem tyRu_ok : ∀ k, k < 16 → parseFieldDescriptor (TRu k).2.2.1 = some (tyRu k) := by decide +kernel
def RSe : String := "ExchangeHouse$Seeker"
def TSe : u_T := fun k => match k with
  | 0 => ("ExchangeHouse$Seeker", "runner", "LExchangeHouse$Runner;", true)
  | 1 => ("ExchangeHouse$Seeker", "plan", "LExchangeHouse$Plan;", false)
  | 2 => ("ExchangeHouse$Seeker", "from", "[I", true)
  | 3 => ("ExchangeHouse$Seeker", "move", "[I", true)
  | 4 => ("ExchangeHouse$Seeker", "depth", "[I", true)
  | 5 => ("ExchangeHouse$Seeker", "moves", "[I", true)
  | 6 => ("ExchangeHouse$Seeker", "lost", "[I", true)
  | 7 => ("ExchangeHouse$Seeker", "errors", "[I", true)
  | 8 => ("ExchangeHouse$Seeker", "hash", "[I", true)
  | 9 => ("ExchangeHouse$Seeker", "begins", "[I", true)
  | 10 => ("ExchangeHouse$Seeker", "pool", "[I", false)
  | 11 => ("ExchangeHouse$Seeker", "found", "I", false)
  | 12 => ("ExchangeHouse$Seeker", "limit", "I", false)
  | 13 => ("ExchangeHouse$Seeker", "looked", "I", false)
  | 14 => ("ExchangeHouse$Seeker", "cut", "Z", false)
  | 15 => ("ExchangeHouse$Seeker", "movesHere", "I", false)
  | 16 => ("ExchangeHouse$Seeker", "lostHere", "I", false)
  | _ => ("ExchangeHouse$Seeker", "errorsHere", "I", false)
def tySe : Nat → FieldType := fun k => match k with
  | 0 => .object "ExchangeHouse$Runner"
  | 1 => .object "ExchangeHouse$Plan"
  | 2 => .array .int
  | 3 => .array .int
  | 4 => .array .int
  | 5 => .array .int
  | 6 => .array .int
  | 7 => .array .int
  | 8 => .array .int
  | 9 => .array .int
  | 10 => .array .int
  | 11 => .int
  | 12 => .int
  | 13 => .int
  | 14 => .boolean
  | 15 => .int
  | 16 => .int
  | _ => .int
theorem nmSe : ∀ a, a < 18 → ∀ b, b < 18 → a ≠ b → (TSe a).2.1 ≠ (TSe b).2.1 := by decide +kernel
theorem tySe_ok : ∀ k, k < 18 → parseFieldDescriptor (TSe k).2.2.1 = some (tySe k) := by decide +kernel
def RSh : String := "ExchangeHouse$Sheet"
def TSh : u_T := fun k => match k with
  | 0 => ("ExchangeHouse$Sheet", "tokens", "LExchangeHouse$Tokens;", true)
  | 1 => ("ExchangeHouse$Sheet", "insts", "LExchangeHouse$Names;", true)
  | 2 => ("ExchangeHouse$Sheet", "number", "[I", true)
  | 3 => ("ExchangeHouse$Sheet", "left", "[I", true)
  | 4 => ("ExchangeHouse$Sheet", "right", "[I", true)
  | 5 => ("ExchangeHouse$Sheet", "signal", "[I", true)
  | 6 => ("ExchangeHouse$Sheet", "lines", "I", false)
  | 7 => ("ExchangeHouse$Sheet", "within", "[I", true)
  | 8 => ("ExchangeHouse$Sheet", "parent", "[I", true)
  | 9 => ("ExchangeHouse$Sheet", "options", "[I", true)
  | 10 => ("ExchangeHouse$Sheet", "optional", "[Z", true)
  | 11 => ("ExchangeHouse$Sheet", "points", "I", false)
  | 12 => ("ExchangeHouse$Sheet", "chosen", "[I", true)
  | 13 => ("ExchangeHouse$Sheet", "opened", "[I", true)
  | 14 => ("ExchangeHouse$Sheet", "depth", "I", false)
  | 15 => ("ExchangeHouse$Sheet", "events", "[J", true)
  | 16 => ("ExchangeHouse$Sheet", "eventCount", "[I", true)
  | 17 => ("ExchangeHouse$Sheet", "answeredLines", "I", false)
  | _ => ("ExchangeHouse$Sheet", "answeredChoices", "I", false)
def tySh : Nat → FieldType := fun k => match k with
  | 0 => .object "ExchangeHouse$Tokens"
  | 1 => .object "ExchangeHouse$Names"
  | 2 => .array .int
  | 3 => .array .int
  | 4 => .array .int
  | 5 => .array .int
  | 6 => .int
  | 7 => .array .int
  | 8 => .array .int
  | 9 => .array .int
  | 10 => .array .boolean
  | 11 => .int
  | 12 => .array .int
  | 13 => .array .int
  | 14 => .int
  | 15 => .array .long
  | 16 => .array .int
  | 17 => .int
  | _ => .int
theorem nmSh : ∀ a, a < 19 → ∀ b, b < 19 → a ≠ b → (TSh a).2.1 ≠ (TSh b).2.1 := by decide +kernel
theorem tySh_ok : ∀ k, k < 19 → parseFieldDescriptor (TSh k).2.2.1 = some (tySh k) := by decide +kernel
def RTk : String := "ExchangeHouse$Tokens"
def TTk : u_T := fun k => match k with
  | 0 => ("ExchangeHouse$Tokens", "kind", "[I", true)
  | 1 => ("ExchangeHouse$Tokens", "place", "[I", true)
  | 2 => ("ExchangeHouse$Tokens", "value", "[J", true)
  | 3 => ("ExchangeHouse$Tokens", "at", "I", false)
  | 4 => ("ExchangeHouse$Tokens", "open", "I", false)
  | 5 => ("ExchangeHouse$Tokens", "early", "I", false)
  | 6 => ("ExchangeHouse$Tokens", "earlyPlace", "I", false)
  | 7 => ("ExchangeHouse$Tokens", "late", "I", false)
  | 8 => ("ExchangeHouse$Tokens", "latePlace", "I", false)
  | 9 => ("ExchangeHouse$Tokens", "keywords", "[J", true)
  | 10 => ("ExchangeHouse$Tokens", "text", "[B", false)
  | _ => ("ExchangeHouse$Tokens", "length", "I", false)
def tyTk : Nat → FieldType := fun k => match k with
  | 0 => .array .int
  | 1 => .array .int
  | 2 => .array .long
  | 3 => .int
  | 4 => .int
  | 5 => .int
  | 6 => .int
  | 7 => .int
  | 8 => .int
  | 9 => .array .long
  | 10 => .array .byte
  | _ => .int
theorem nmTk : ∀ a, a < 12 → ∀ b, b < 12 → a ≠ b → (TTk a).2.1 ≠ (TTk b).2.1 := by decide +kernel
theorem tyTk_ok : ∀ k, k < 12 → parseFieldDescriptor (TTk k).2.2.1 = some (tyTk k) := by decide +kernel
def RE : String := "ExchangeHouse"
def TE : u_T := fun k => match k with
  | 0 => ("ExchangeHouse", "tape", "[B", false)
  | 1 => ("ExchangeHouse", "fed", "I", false)
  | 2 => ("ExchangeHouse", "tokens", "LExchangeHouse$Tokens;", false)
  | 3 => ("ExchangeHouse", "parser", "LExchangeHouse$Parser;", false)
  | 4 => ("ExchangeHouse", "judge", "LExchangeHouse$Judge;", false)
  | 5 => ("ExchangeHouse", "runner", "LExchangeHouse$Runner;", false)
  | 6 => ("ExchangeHouse", "seeker", "LExchangeHouse$Seeker;", false)
  | 7 => ("ExchangeHouse", "sheet", "LExchangeHouse$Sheet;", false)
  | 8 => ("ExchangeHouse", "plan", "LExchangeHouse$Plan;", false)
  | 9 => ("ExchangeHouse", "spare", "LExchangeHouse$Plan;", false)
  | 10 => ("ExchangeHouse", "running", "Z", false)
  | _ => ("ExchangeHouse", "faultPlace", "I", false)
def tyE : Nat → FieldType := fun k => match k with
  | 0 => .array .byte
  | 1 => .int
  | 2 => .object "ExchangeHouse$Tokens"
  | 3 => .object "ExchangeHouse$Parser"
  | 4 => .object "ExchangeHouse$Judge"
  | 5 => .object "ExchangeHouse$Runner"
  | 6 => .object "ExchangeHouse$Seeker"
  | 7 => .object "ExchangeHouse$Sheet"
  | 8 => .object "ExchangeHouse$Plan"
  | 9 => .object "ExchangeHouse$Plan"
  | 10 => .boolean
  | _ => .int
theorem nmE : ∀ a, a < 12 → ∀ b, b < 12 → a ≠ b → (TE a).2.1 ≠ (TE b).2.1 := by decide +kernel
theorem tyE_ok : ∀ k, k < 12 → parseFieldDescriptor (TE k).2.2.1 = some (tyE k) := by decide +kernel
def RM : String := "ExchangeHouseModel"
def TM : u_T := fun k => match k with
  | 0 => ("ExchangeHouseModel", "tape", "[B", true)
  | 1 => ("ExchangeHouseModel", "text", "[B", true)
  | 2 => ("ExchangeHouseModel", "good", "[B", true)
  | 3 => ("ExchangeHouseModel", "taped", "I", false)
  | 4 => ("ExchangeHouseModel", "length", "I", false)
  | 5 => ("ExchangeHouseModel", "goodLength", "I", false)
  | 6 => ("ExchangeHouseModel", "there", "Z", false)
  | 7 => ("ExchangeHouseModel", "words", "[J", true)
  | 8 => ("ExchangeHouseModel", "tk", "[I", true)
  | 9 => ("ExchangeHouseModel", "tp", "[I", true)
  | 10 => ("ExchangeHouseModel", "tv", "[J", true)
  | 11 => ("ExchangeHouseModel", "many", "I", false)
  | 12 => ("ExchangeHouseModel", "at", "I", false)
  | 13 => ("ExchangeHouseModel", "fault", "I", false)
  | 14 => ("ExchangeHouseModel", "faultAt", "I", false)
  | 15 => ("ExchangeHouseModel", "open", "I", false)
  | 16 => ("ExchangeHouseModel", "judges", "Z", false)
  | 17 => ("ExchangeHouseModel", "sigs", "I", false)
  | 18 => ("ExchangeHouseModel", "routes", "I", false)
  | 19 => ("ExchangeHouseModel", "types", "I", false)
  | 20 => ("ExchangeHouseModel", "sName", "[J", true)
  | 21 => ("ExchangeHouseModel", "rName", "[J", true)
  | 22 => ("ExchangeHouseModel", "tName", "[J", true)
  | 23 => ("ExchangeHouseModel", "sAt", "[I", true)
  | 24 => ("ExchangeHouseModel", "sSorts", "[I", true)
  | 25 => ("ExchangeHouseModel", "sSort", "[I", true)
  | 26 => ("ExchangeHouseModel", "rFrom", "[J", true)
  | 27 => ("ExchangeHouseModel", "rTo", "[J", true)
  | 28 => ("ExchangeHouseModel", "rSource", "[I", true)
  | 29 => ("ExchangeHouseModel", "rGoal", "[I", true)
  | 30 => ("ExchangeHouseModel", "rLow", "[I", true)
  | 31 => ("ExchangeHouseModel", "rHigh", "[I", true)
  | 32 => ("ExchangeHouseModel", "rCarries", "[I", true)
  | 33 => ("ExchangeHouseModel", "rNames", "[I", true)
  | 34 => ("ExchangeHouseModel", "rTwo", "[Z", true)
  | 35 => ("ExchangeHouseModel", "tAt", "[I", true)
  | 36 => ("ExchangeHouseModel", "tLow", "[I", true)
  | 37 => ("ExchangeHouseModel", "tHigh", "[I", true)
  | 38 => ("ExchangeHouseModel", "tPars", "[I", true)
  | 39 => ("ExchangeHouseModel", "tVars", "[I", true)
  | 40 => ("ExchangeHouseModel", "tCells", "[I", true)
  | 41 => ("ExchangeHouseModel", "tTimers", "[I", true)
  | 42 => ("ExchangeHouseModel", "tStates", "[I", true)
  | 43 => ("ExchangeHouseModel", "tLabels", "[I", true)
  | 44 => ("ExchangeHouseModel", "tStart", "[I", true)
  | 45 => ("ExchangeHouseModel", "vName", "[J", true)
  | 46 => ("ExchangeHouseModel", "mName", "[J", true)
  | 47 => ("ExchangeHouseModel", "stName", "[J", true)
  | 48 => ("ExchangeHouseModel", "lName", "[J", true)
  | 49 => ("ExchangeHouseModel", "vAt", "[I", true)
  | 50 => ("ExchangeHouseModel", "vSort", "[I", true)
  | 51 => ("ExchangeHouseModel", "vSize", "[I", true)
  | 52 => ("ExchangeHouseModel", "vCell", "[I", true)
  | 53 => ("ExchangeHouseModel", "mAt", "[I", true)
  | 54 => ("ExchangeHouseModel", "stAt", "[I", true)
  | 55 => ("ExchangeHouseModel", "lAt", "[I", true)
  | 56 => ("ExchangeHouseModel", "lGoal", "[I", true)
  | 57 => ("ExchangeHouseModel", "lTrans", "[I", true)
  | 58 => ("ExchangeHouseModel", "globals", "I", false)
  | 59 => ("ExchangeHouseModel", "gName", "[J", true)
  | 60 => ("ExchangeHouseModel", "gAt", "[I", true)
  | 61 => ("ExchangeHouseModel", "type", "I", false)
  | 62 => ("ExchangeHouseModel", "stims", "I", false)
  | 63 => ("ExchangeHouseModel", "ins", "I", false)
  | 64 => ("ExchangeHouseModel", "stType", "[I", true)
  | 65 => ("ExchangeHouseModel", "stKind", "[I", true)
  | 66 => ("ExchangeHouseModel", "stMask", "[I", true)
  | 67 => ("ExchangeHouseModel", "stPrio", "[I", true)
  | 68 => ("ExchangeHouseModel", "stIf", "[I", true)
  | 69 => ("ExchangeHouseModel", "stCode", "[I", true)
  | 70 => ("ExchangeHouseModel", "stFrom", "[I", true)
  | 71 => ("ExchangeHouseModel", "stTo", "[I", true)
  | 72 => ("ExchangeHouseModel", "inSignal", "[I", true)
  | 73 => ("ExchangeHouseModel", "inCount", "[I", true)
  | 74 => ("ExchangeHouseModel", "inVar", "[I", true)
  | 75 => ("ExchangeHouseModel", "codes", "I", false)
  | 76 => ("ExchangeHouseModel", "transes", "I", false)
  | 77 => ("ExchangeHouseModel", "op", "[I", true)
  | 78 => ("ExchangeHouseModel", "opAt", "[I", true)
  | 79 => ("ExchangeHouseModel", "opA", "[I", true)
  | 80 => ("ExchangeHouseModel", "opB", "[I", true)
  | 81 => ("ExchangeHouseModel", "opC", "[I", true)
  | 82 => ("ExchangeHouseModel", "opD", "[I", true)
  | 83 => ("ExchangeHouseModel", "opValue", "[I", true)
  | 84 => ("ExchangeHouseModel", "opValues", "[I", true)
  | 85 => ("ExchangeHouseModel", "trType", "[I", true)
  | 86 => ("ExchangeHouseModel", "trMask", "[I", true)
  | 87 => ("ExchangeHouseModel", "trNext", "[I", true)
  | 88 => ("ExchangeHouseModel", "trJoin", "[I", true)
  | 89 => ("ExchangeHouseModel", "trStart", "[Z", true)
  | 90 => ("ExchangeHouseModel", "ranges", "I", false)
  | 91 => ("ExchangeHouseModel", "rgLow", "[I", true)
  | 92 => ("ExchangeHouseModel", "rgHigh", "[I", true)
  | 93 => ("ExchangeHouseModel", "rgGoal", "[I", true)
  | 94 => ("ExchangeHouseModel", "rgNext", "[I", true)
  | 95 => ("ExchangeHouseModel", "dCode", "[I", true)
  | 96 => ("ExchangeHouseModel", "dMany", "[I", true)
  | 97 => ("ExchangeHouseModel", "dLatest", "[I", true)
  | 98 => ("ExchangeHouseModel", "dSort", "[I", true)
  | 99 => ("ExchangeHouseModel", "dJump", "[I", true)
  | 100 => ("ExchangeHouseModel", "dElse", "[Z", true)
  | 101 => ("ExchangeHouseModel", "dEnds", "[Z", true)
  | 102 => ("ExchangeHouseModel", "deep", "I", false)
  | 103 => ("ExchangeHouseModel", "ends", "Z", false)
  | 104 => ("ExchangeHouseModel", "forms", "I", false)
  | 105 => ("ExchangeHouseModel", "form", "[I", true)
  | 106 => ("ExchangeHouseModel", "formOf", "[I", true)
  | 107 => ("ExchangeHouseModel", "eSort", "I", false)
  | 108 => ("ExchangeHouseModel", "eAt", "I", false)
  | 109 => ("ExchangeHouseModel", "eBad", "Z", false)
  | 110 => ("ExchangeHouseModel", "oSign", "[I", true)
  | 111 => ("ExchangeHouseModel", "oToken", "[I", true)
  | 112 => ("ExchangeHouseModel", "signs", "I", false)
  | 113 => ("ExchangeHouseModel", "wSort", "[I", true)
  | 114 => ("ExchangeHouseModel", "wAt", "[I", true)
  | 115 => ("ExchangeHouseModel", "wBad", "[Z", true)
  | 116 => ("ExchangeHouseModel", "waits", "I", false)
  | 117 => ("ExchangeHouseModel", "compares", "[Z", true)
  | 118 => ("ExchangeHouseModel", "brackets", "I", false)
  | 119 => ("ExchangeHouseModel", "place", "I", false)
  | 120 => ("ExchangeHouseModel", "warnings", "I", false)
  | 121 => ("ExchangeHouseModel", "warns", "[I", true)
  | 122 => ("ExchangeHouseModel", "warnsAt", "[I", true)
  | 123 => ("ExchangeHouseModel", "comeTo", "[I", true)
  | 124 => ("ExchangeHouseModel", "tells", "[Z", true)
  | 125 => ("ExchangeHouseModel", "s", "[I", false)
  | 126 => ("ExchangeHouseModel", "runs", "Z", false)
  | 127 => ("ExchangeHouseModel", "quiet", "Z", false)
  | 128 => ("ExchangeHouseModel", "now", "I", false)
  | 129 => ("ExchangeHouseModel", "seed", "I", false)
  | 130 => ("ExchangeHouseModel", "latest", "I", false)
  | 131 => ("ExchangeHouseModel", "madeInAll", "I", false)
  | 132 => ("ExchangeHouseModel", "lostInAll", "I", false)
  | 133 => ("ExchangeHouseModel", "errorsInAll", "I", false)
  | 134 => ("ExchangeHouseModel", "lastError", "I", false)
  | 135 => ("ExchangeHouseModel", "lastErrorAt", "I", false)
  | 136 => ("ExchangeHouseModel", "steps", "I", false)
  | 137 => ("ExchangeHouseModel", "outs", "I", false)
  | 138 => ("ExchangeHouseModel", "lostNow", "I", false)
  | 139 => ("ExchangeHouseModel", "errorsNow", "I", false)
  | 140 => ("ExchangeHouseModel", "trace", "[I", true)
  | 141 => ("ExchangeHouseModel", "outRow", "[I", true)
  | 142 => ("ExchangeHouseModel", "traced", "I", false)
  | 143 => ("ExchangeHouseModel", "tracedFirst", "I", false)
  | 144 => ("ExchangeHouseModel", "outNext", "I", false)
  | 145 => ("ExchangeHouseModel", "outKept", "I", false)
  | 146 => ("ExchangeHouseModel", "given", "[I", true)
  | 147 => ("ExchangeHouseModel", "stack", "[I", true)
  | 148 => ("ExchangeHouseModel", "top", "I", false)
  | 149 => ("ExchangeHouseModel", "formError", "I", false)
  | 150 => ("ExchangeHouseModel", "worked", "[I", true)
  | 151 => ("ExchangeHouseModel", "stepStim", "I", false)
  | 152 => ("ExchangeHouseModel", "stepItem", "I", false)
  | 153 => ("ExchangeHouseModel", "stepIn", "I", false)
  | 154 => ("ExchangeHouseModel", "all", "[I", true)
  | 155 => ("ExchangeHouseModel", "kept", "[I", true)
  | 156 => ("ExchangeHouseModel", "fFrom", "[I", true)
  | 157 => ("ExchangeHouseModel", "fMove", "[I", true)
  | 158 => ("ExchangeHouseModel", "fDeep", "[I", true)
  | 159 => ("ExchangeHouseModel", "fMoves", "[I", true)
  | 160 => ("ExchangeHouseModel", "fLost", "[I", true)
  | 161 => ("ExchangeHouseModel", "fErrors", "[I", true)
  | 162 => ("ExchangeHouseModel", "fSum", "[I", true)
  | 163 => ("ExchangeHouseModel", "found", "I", false)
  | 164 => ("ExchangeHouseModel", "looked", "I", false)
  | 165 => ("ExchangeHouseModel", "limit", "I", false)
  | 166 => ("ExchangeHouseModel", "moves", "I", false)
  | 167 => ("ExchangeHouseModel", "lostMoves", "I", false)
  | 168 => ("ExchangeHouseModel", "errorMoves", "I", false)
  | 169 => ("ExchangeHouseModel", "wasCut", "Z", false)
  | 170 => ("ExchangeHouseModel", "insts", "I", false)
  | 171 => ("ExchangeHouseModel", "lines", "I", false)
  | 172 => ("ExchangeHouseModel", "blocks", "I", false)
  | 173 => ("ExchangeHouseModel", "iName", "[J", true)
  | 174 => ("ExchangeHouseModel", "iNumber", "[I", true)
  | 175 => ("ExchangeHouseModel", "liLeft", "[I", true)
  | 176 => ("ExchangeHouseModel", "liRight", "[I", true)
  | 177 => ("ExchangeHouseModel", "liSignal", "[I", true)
  | 178 => ("ExchangeHouseModel", "liDeep", "[I", true)
  | 179 => ("ExchangeHouseModel", "liBlock", "[I", true)
  | 180 => ("ExchangeHouseModel", "liRow", "[I", true)
  | 181 => ("ExchangeHouseModel", "bMany", "[I", true)
  | 182 => ("ExchangeHouseModel", "bOpen", "[I", true)
  | 183 => ("ExchangeHouseModel", "bRow", "[I", true)
  | 184 => ("ExchangeHouseModel", "bChoice", "[I", true)
  | 185 => ("ExchangeHouseModel", "bOpt", "[Z", true)
  | 186 => ("ExchangeHouseModel", "within", "I", false)
  | 187 => ("ExchangeHouseModel", "linesTold", "I", false)
  | 188 => ("ExchangeHouseModel", "choicesKept", "I", false)
  | _ => ("ExchangeHouseModel", "eventsAt", "I", false)
def tyM : Nat → FieldType := fun k => match k with
  | 0 => .array .byte
  | 1 => .array .byte
  | 2 => .array .byte
  | 3 => .int
  | 4 => .int
  | 5 => .int
  | 6 => .boolean
  | 7 => .array .long
  | 8 => .array .int
  | 9 => .array .int
  | 10 => .array .long
  | 11 => .int
  | 12 => .int
  | 13 => .int
  | 14 => .int
  | 15 => .int
  | 16 => .boolean
  | 17 => .int
  | 18 => .int
  | 19 => .int
  | 20 => .array .long
  | 21 => .array .long
  | 22 => .array .long
  | 23 => .array .int
  | 24 => .array .int
  | 25 => .array .int
  | 26 => .array .long
  | 27 => .array .long
  | 28 => .array .int
  | 29 => .array .int
  | 30 => .array .int
  | 31 => .array .int
  | 32 => .array .int
  | 33 => .array .int
  | 34 => .array .boolean
  | 35 => .array .int
  | 36 => .array .int
  | 37 => .array .int
  | 38 => .array .int
  | 39 => .array .int
  | 40 => .array .int
  | 41 => .array .int
  | 42 => .array .int
  | 43 => .array .int
  | 44 => .array .int
  | 45 => .array .long
  | 46 => .array .long
  | 47 => .array .long
  | 48 => .array .long
  | 49 => .array .int
  | 50 => .array .int
  | 51 => .array .int
  | 52 => .array .int
  | 53 => .array .int
  | 54 => .array .int
  | 55 => .array .int
  | 56 => .array .int
  | 57 => .array .int
  | 58 => .int
  | 59 => .array .long
  | 60 => .array .int
  | 61 => .int
  | 62 => .int
  | 63 => .int
  | 64 => .array .int
  | 65 => .array .int
  | 66 => .array .int
  | 67 => .array .int
  | 68 => .array .int
  | 69 => .array .int
  | 70 => .array .int
  | 71 => .array .int
  | 72 => .array .int
  | 73 => .array .int
  | 74 => .array .int
  | 75 => .int
  | 76 => .int
  | 77 => .array .int
  | 78 => .array .int
  | 79 => .array .int
  | 80 => .array .int
  | 81 => .array .int
  | 82 => .array .int
  | 83 => .array .int
  | 84 => .array .int
  | 85 => .array .int
  | 86 => .array .int
  | 87 => .array .int
  | 88 => .array .int
  | 89 => .array .boolean
  | 90 => .int
  | 91 => .array .int
  | 92 => .array .int
  | 93 => .array .int
  | 94 => .array .int
  | 95 => .array .int
  | 96 => .array .int
  | 97 => .array .int
  | 98 => .array .int
  | 99 => .array .int
  | 100 => .array .boolean
  | 101 => .array .boolean
  | 102 => .int
  | 103 => .boolean
  | 104 => .int
  | 105 => .array .int
  | 106 => .array .int
  | 107 => .int
  | 108 => .int
  | 109 => .boolean
  | 110 => .array .int
  | 111 => .array .int
  | 112 => .int
  | 113 => .array .int
  | 114 => .array .int
  | 115 => .array .boolean
  | 116 => .int
  | 117 => .array .boolean
  | 118 => .int
  | 119 => .int
  | 120 => .int
  | 121 => .array .int
  | 122 => .array .int
  | 123 => .array .int
  | 124 => .array .boolean
  | 125 => .array .int
  | 126 => .boolean
  | 127 => .boolean
  | 128 => .int
  | 129 => .int
  | 130 => .int
  | 131 => .int
  | 132 => .int
  | 133 => .int
  | 134 => .int
  | 135 => .int
  | 136 => .int
  | 137 => .int
  | 138 => .int
  | 139 => .int
  | 140 => .array .int
  | 141 => .array .int
  | 142 => .int
  | 143 => .int
  | 144 => .int
  | 145 => .int
  | 146 => .array .int
  | 147 => .array .int
  | 148 => .int
  | 149 => .int
  | 150 => .array .int
  | 151 => .int
  | 152 => .int
  | 153 => .int
  | 154 => .array .int
  | 155 => .array .int
  | 156 => .array .int
  | 157 => .array .int
  | 158 => .array .int
  | 159 => .array .int
  | 160 => .array .int
  | 161 => .array .int
  | 162 => .array .int
  | 163 => .int
  | 164 => .int
  | 165 => .int
  | 166 => .int
  | 167 => .int
  | 168 => .int
  | 169 => .boolean
  | 170 => .int
  | 171 => .int
  | 172 => .int
  | 173 => .array .long
  | 174 => .array .int
  | 175 => .array .int
  | 176 => .array .int
  | 177 => .array .int
  | 178 => .array .int
  | 179 => .array .int
  | 180 => .array .int
  | 181 => .array .int
  | 182 => .array .int
  | 183 => .array .int
  | 184 => .array .int
  | 185 => .array .boolean
  | 186 => .int
  | 187 => .int
  | 188 => .int
  | _ => .int
theorem nmM : ∀ a, a < 190 → ∀ b, b < 190 → a ≠ b → (TM a).2.1 ≠ (TM b).2.1 := by decide +kernel
theorem tyM_ok : ∀ k, k < 190 → parseFieldDescriptor (TM k).2.2.1 = some (tyM k) := by decide +kernel
def RJx8e188 : String := "java/lang/Cloneable"
def TJx8e188 : u_T := fun k => match k with
  | _ => ("", "", "", false)
def tyJx8e188 : Nat → FieldType := fun k => match k with
  | _ => .int
theorem nmJx8e188 : ∀ a, a < 0 → ∀ b, b < 0 → a ≠ b → (TJx8e188 a).2.1 ≠ (TJx8e188 b).2.1 := by decide +kernel
theorem tyJx8e188_ok : ∀ k, k < 0 → parseFieldDescriptor (TJx8e188 k).2.2.1 = some (tyJx8e188 k) := by decide +kernel
def RJ9 : String := "java/lang/Math"
def TJ9 : u_T := fun k => match k with
  | _ => ("", "", "", false)
def tyJ9 : Nat → FieldType := fun k => match k with
  | _ => .int
theorem nmJ9 : ∀ a, a < 0 → ∀ b, b < 0 → a ≠ b → (TJ9 a).2.1 ≠ (TJ9 b).2.1 := by decide +kernel
theorem tyJ9_ok : ∀ k, k < 0 → parseFieldDescriptor (TJ9 k).2.2.1 = some (tyJ9 k) := by decide +kernel
def RJ0 : String := "java/lang/String"
def TJ0 : u_T := fun k => match k with
  | _ => ("", "", "", false)
def tyJ0 : Nat → FieldType := fun k => match k with
  | _ => .int
theorem nmJ0 : ∀ a, a < 0 → ∀ b, b < 0 → a ≠ b → (TJ0 a).2.1 ≠ (TJ0 b).2.1 := by decide +kernel
theorem tyJ0_ok : ∀ k, k < 0 → parseFieldDescriptor (TJ0 k).2.2.1 = some (tyJ0 k) := by decide +kernel
def RJ1 : String := "java/lang/StringLatin1"
def TJ1 : u_T := fun k => match k with
  | _ => ("", "", "", false)
def tyJ1 : Nat → FieldType := fun k => match k with
  | _ => .int
theorem nmJ1 : ∀ a, a < 0 → ∀ b, b < 0 → a ≠ b → (TJ1 a).2.1 ≠ (TJ1 b).2.1 := by decide +kernel
theorem tyJ1_ok : ∀ k, k < 0 → parseFieldDescriptor (TJ1 k).2.2.1 = some (tyJ1 k) := by decide +kernel
def RJ2 : String := "java/lang/StringUTF16"
def TJ2 : u_T := fun k => match k with
  | _ => ("", "", "", false)
def tyJ2 : Nat → FieldType := fun k => match k with
  | _ => .int
theorem nmJ2 : ∀ a, a < 0 → ∀ b, b < 0 → a ≠ b → (TJ2 a).2.1 ≠ (TJ2 b).2.1 := by decide +kernel
theorem tyJ2_ok : ∀ k, k < 0 → parseFieldDescriptor (TJ2 k).2.2.1 = some (tyJ2 k) := by decide +kernel
def RJ10 : String := "java/lang/System"
def TJ10 : u_T := fun k => match k with
  | _ => ("", "", "", false)
def tyJ10 : Nat → FieldType := fun k => match k with
  | _ => .int
theorem nmJ10 : ∀ a, a < 0 → ∀ b, b < 0 → a ≠ b → (TJ10 a).2.1 ≠ (TJ10 b).2.1 := by decide +kernel
theorem tyJ10_ok : ∀ k, k < 0 → parseFieldDescriptor (TJ10 k).2.2.1 = some (tyJ10 k) := by decide +kernel
def RJ7 : String := "java/util/Arrays"
def TJ7 : u_T := fun k => match k with
  | _ => ("", "", "", false)
def tyJ7 : Nat → FieldType := fun k => match k with
  | _ => .int
theorem nmJ7 : ∀ a, a < 0 → ∀ b, b < 0 → a ≠ b → (TJ7 a).2.1 ≠ (TJ7 b).2.1 := by decide +kernel
theorem tyJ7_ok : ∀ k, k < 0 → parseFieldDescriptor (TJ7 k).2.2.1 = some (tyJ7 k) := by decide +kernel
def RJ3 : String := "jdk/internal/util/Preconditions"
def TJ3 : u_T := fun k => match k with
  | _ => ("", "", "", false)
def tyJ3 : Nat → FieldType := fun k => match k with
  | _ => .int
theorem nmJ3 : ∀ a, a < 0 → ∀ b, b < 0 → a ≠ b → (TJ3 a).2.1 ≠ (TJ3 b).2.1 := by decide +kernel
theorem tyJ3_ok : ∀ k, k < 0 → parseFieldDescriptor (TJ3 k).2.2.1 = some (tyJ3 k) := by decide +kernel
abbrev cJu_init : ByteArray := prog_2_method_1_code
def yJu_init : MethodName := ⟨RJu, "<init>", "(LExchangeHouse$Tokens;)V"⟩
abbrev cJu_check : ByteArray := prog_2_method_2_code
def yJu_check : MethodName := ⟨RJu, "check", "(LExchangeHouse$Plan;)V"⟩
abbrev cJu_blame : ByteArray := prog_2_method_3_code
def yJu_blame : MethodName := ⟨RJu, "blame", "(II)V"⟩
abbrev cJu_askTold : ByteArray := prog_2_method_4_code
def yJu_askTold : MethodName := ⟨RJu, "askTold", "(LExchangeHouse$Names;)V"⟩
abbrev cJu_askNamesOf : ByteArray := prog_2_method_5_code
def yJu_askNamesOf : MethodName := ⟨RJu, "askNamesOf", "(LExchangeHouse$Kind;)V"⟩
abbrev cJu_isToldIn : ByteArray := prog_2_method_6_code
def yJu_isToldIn : MethodName := ⟨RJu, "isToldIn", "(LExchangeHouse$Kind;JI)Z"⟩
abbrev cJu_askRoute : ByteArray := prog_2_method_7_code
def yJu_askRoute : MethodName := ⟨RJu, "askRoute", "(I)V"⟩
abbrev cJu_find : ByteArray := prog_2_method_8_code
def yJu_find : MethodName := ⟨RJu, "find", "(LExchangeHouse$Names;I)I"⟩
abbrev cJu_findVariable : ByteArray := prog_2_method_9_code
def yJu_findVariable : MethodName := ⟨RJu, "findVariable", "(IZ)I"⟩
abbrev cJu_push : ByteArray := prog_2_method_10_code
def yJu_push : MethodName := ⟨RJu, "push", "(II)V"⟩
abbrev cJu_pops : ByteArray := prog_2_method_11_code
def yJu_pops : MethodName := ⟨RJu, "pops", "(I)Z"⟩
abbrev cJu_askOperand : ByteArray := prog_2_method_12_code
def yJu_askOperand : MethodName := ⟨RJu, "askOperand", "(I)V"⟩
abbrev cJu_askOperator : ByteArray := prog_2_method_13_code
def yJu_askOperator : MethodName := ⟨RJu, "askOperator", "(I)V"⟩
abbrev cJu_setCells : ByteArray := prog_2_method_14_code
def yJu_setCells : MethodName := ⟨RJu, "setCells", "(II)V"⟩
abbrev cJu_askBinary : ByteArray := prog_2_method_15_code
def yJu_askBinary : MethodName := ⟨RJu, "askBinary", "(I)V"⟩
abbrev cJu_askStimulus : ByteArray := prog_2_method_16_code
def yJu_askStimulus : MethodName := ⟨RJu, "askStimulus", "(I)V"⟩
abbrev cJu_enter : ByteArray := prog_2_method_17_code
def yJu_enter : MethodName := ⟨RJu, "enter", "(II)V"⟩
abbrev cJu_askInto : ByteArray := prog_2_method_18_code
def yJu_askInto : MethodName := ⟨RJu, "askInto", "(II)V"⟩
abbrev cJu_askAct : ByteArray := prog_2_method_19_code
def yJu_askAct : MethodName := ⟨RJu, "askAct", "(I)V"⟩
abbrev cJu_askOutput : ByteArray := prog_2_method_20_code
def yJu_askOutput : MethodName := ⟨RJu, "askOutput", "(II)V"⟩
abbrev cJu_askVia : ByteArray := prog_2_method_21_code
def yJu_askVia : MethodName := ⟨RJu, "askVia", "(II)V"⟩
abbrev cJu_askCreate : ByteArray := prog_2_method_22_code
def yJu_askCreate : MethodName := ⟨RJu, "askCreate", "(II)V"⟩
abbrev cJu_askDecide : ByteArray := prog_2_method_23_code
def yJu_askDecide : MethodName := ⟨RJu, "askDecide", "()V"⟩
abbrev cJu_askOther : ByteArray := prog_2_method_24_code
def yJu_askOther : MethodName := ⟨RJu, "askOther", "(I)V"⟩
abbrev cJu_askRange : ByteArray := prog_2_method_25_code
def yJu_askRange : MethodName := ⟨RJu, "askRange", "(I)V"⟩
abbrev cJu_warn : ByteArray := prog_2_method_26_code
def yJu_warn : MethodName := ⟨RJu, "warn", "(LExchangeHouse$Plan;)V"⟩
abbrev cJu_warnOfAll : ByteArray := prog_2_method_27_code
def yJu_warnOfAll : MethodName := ⟨RJu, "warnOfAll", "(LExchangeHouse$Names;II)V"⟩
abbrev cJu_addWarning : ByteArray := prog_2_method_28_code
def yJu_addWarning : MethodName := ⟨RJu, "addWarning", "(II)V"⟩
abbrev cJu_isBehind : ByteArray := prog_2_method_29_code
def yJu_isBehind : MethodName := ⟨RJu, "isBehind", "([IIII)Z"⟩
abbrev cJu_warnOfType : ByteArray := prog_2_method_30_code
def yJu_warnOfType : MethodName := ⟨RJu, "warnOfType", "(LExchangeHouse$Kind;)V"⟩
abbrev cJu_holdsLabel : ByteArray := prog_2_method_31_code
def yJu_holdsLabel : MethodName := ⟨RJu, "holdsLabel", "(LExchangeHouse$Kind;II)Z"⟩
abbrev cJu_joinsOf : ByteArray := prog_2_method_32_code
def yJu_joinsOf : MethodName := ⟨RJu, "joinsOf", "(LExchangeHouse$Kind;)I"⟩
abbrev cKd_init : ByteArray := prog_3_method_1_code
def yKd_init : MethodName := ⟨RKd, "<init>", "()V"⟩
abbrev cKd_clear : ByteArray := prog_3_method_2_code
def yKd_clear : MethodName := ⟨RKd, "clear", "()V"⟩
abbrev cKd_shape : ByteArray := prog_3_method_3_code
def yKd_shape : MethodName := ⟨RKd, "shape", "(III)V"⟩
abbrev cLo_init : ByteArray := prog_4_method_1_code
def yLo_init : MethodName := ⟨RLo, "<init>", "(Z)V"⟩
abbrev cLo_clear : ByteArray := prog_4_method_2_code
def yLo_clear : MethodName := ⟨RLo, "clear", "()V"⟩
abbrev cLo_note : ByteArray := prog_4_method_3_code
def yLo_note : MethodName := ⟨RLo, "note", "(IIII)V"⟩
abbrev cLo_noteOut : ByteArray := prog_4_method_4_code
def yLo_noteOut : MethodName := ⟨RLo, "noteOut", "([II)V"⟩
abbrev cLo_eventAt : ByteArray := prog_4_method_5_code
def yLo_eventAt : MethodName := ⟨RLo, "eventAt", "(II)I"⟩
abbrev cLo_outAt : ByteArray := prog_4_method_6_code
def yLo_outAt : MethodName := ⟨RLo, "outAt", "(II)I"⟩
abbrev cNa_init : ByteArray := prog_5_method_1_code
def yNa_init : MethodName := ⟨RNa, "<init>", "(I)V"⟩
abbrev cNa_isFull : ByteArray := prog_5_method_2_code
def yNa_isFull : MethodName := ⟨RNa, "isFull", "()Z"⟩
abbrev cNa_add : ByteArray := prog_5_method_3_code
def yNa_add : MethodName := ⟨RNa, "add", "(JI)V"⟩
abbrev cNa_find : ByteArray := prog_5_method_4_code
def yNa_find : MethodName := ⟨RNa, "find", "(J)I"⟩
abbrev cNa_toldAhead : ByteArray := prog_5_method_5_code
def yNa_toldAhead : MethodName := ⟨RNa, "toldAhead", "(JI)Z"⟩
abbrev cNe_init : ByteArray := prog_6_method_1_code
def yNe_init : MethodName := ⟨RNe, "<init>", "()V"⟩
abbrev cNe_clear : ByteArray := prog_6_method_2_code
def yNe_clear : MethodName := ⟨RNe, "clear", "(I)V"⟩
abbrev cNe_rowAt : ByteArray := prog_6_method_3_code
def yNe_rowAt : MethodName := ⟨RNe, "rowAt", "(II)I"⟩
abbrev cNe_find : ByteArray := prog_6_method_4_code
def yNe_find : MethodName := ⟨RNe, "find", "(I)I"⟩
abbrev cNe_countOf : ByteArray := prog_6_method_5_code
def yNe_countOf : MethodName := ⟨RNe, "countOf", "(I)I"⟩
abbrev cNe_leastOf : ByteArray := prog_6_method_6_code
def yNe_leastOf : MethodName := ⟨RNe, "leastOf", "(I)I"⟩
abbrev cNe_make : ByteArray := prog_6_method_7_code
def yNe_make : MethodName := ⟨RNe, "make", "(II)I"⟩
abbrev cNe_drop : ByteArray := prog_6_method_8_code
def yNe_drop : MethodName := ⟨RNe, "drop", "(I)V"⟩
abbrev cNe_push : ByteArray := prog_6_method_9_code
def yNe_push : MethodName := ⟨RNe, "push", "(I[I)Z"⟩
abbrev cNe_pull : ByteArray := prog_6_method_10_code
def yNe_pull : MethodName := ⟨RNe, "pull", "(II[I)V"⟩
abbrev cNe_remove : ByteArray := prog_6_method_11_code
def yNe_remove : MethodName := ⟨RNe, "remove", "(II)V"⟩
abbrev cNe_cancel : ByteArray := prog_6_method_12_code
def yNe_cancel : MethodName := ⟨RNe, "cancel", "(II)V"⟩
abbrev cNe_isActive : ByteArray := prog_6_method_13_code
def yNe_isActive : MethodName := ⟨RNe, "isActive", "(II)Z"⟩
abbrev cNe_depart : ByteArray := prog_6_method_14_code
def yNe_depart : MethodName := ⟨RNe, "depart", "(I[II)V"⟩
abbrev cNe_takeFirst : ByteArray := prog_6_method_15_code
def yNe_takeFirst : MethodName := ⟨RNe, "takeFirst", "(I[I)V"⟩
abbrev cNe_nextTime : ByteArray := prog_6_method_16_code
def yNe_nextTime : MethodName := ⟨RNe, "nextTime", "(I)I"⟩
abbrev cNe_earlier : ByteArray := prog_6_method_17_code
def yNe_earlier : MethodName := ⟨RNe, "earlier", "(II)I"⟩
abbrev cNe_pack : ByteArray := prog_6_method_18_code
def yNe_pack : MethodName := ⟨RNe, "pack", "(LExchangeHouse$Plan;[II)I"⟩
abbrev cNe_packOne : ByteArray := prog_6_method_19_code
def yNe_packOne : MethodName := ⟨RNe, "packOne", "(II[II)I"⟩
abbrev cNe_unpack : ByteArray := prog_6_method_20_code
def yNe_unpack : MethodName := ⟨RNe, "unpack", "(LExchangeHouse$Plan;[II)V"⟩
abbrev cNe_unpackOne : ByteArray := prog_6_method_21_code
def yNe_unpackOne : MethodName := ⟨RNe, "unpackOne", "(ILExchangeHouse$Plan;[II)I"⟩
abbrev cPa_init : ByteArray := prog_7_method_1_code
def yPa_init : MethodName := ⟨RPa, "<init>", "(LExchangeHouse$Tokens;)V"⟩
abbrev cPa_parse : ByteArray := prog_7_method_2_code
def yPa_parse : MethodName := ⟨RPa, "parse", "(LExchangeHouse$Plan;)V"⟩
abbrev cPa_isOver : ByteArray := prog_7_method_3_code
def yPa_isOver : MethodName := ⟨RPa, "isOver", "(I)Z"⟩
abbrev cPa_fits : ByteArray := prog_7_method_4_code
def yPa_fits : MethodName := ⟨RPa, "fits", "(I)Z"⟩
abbrev cPa_told : ByteArray := prog_7_method_5_code
def yPa_told : MethodName := ⟨RPa, "told", "(LExchangeHouse$Names;)I"⟩
abbrev cPa_number : ByteArray := prog_7_method_6_code
def yPa_number : MethodName := ⟨RPa, "number", "(I)I"⟩
abbrev cPa_sort : ByteArray := prog_7_method_7_code
def yPa_sort : MethodName := ⟨RPa, "sort", "()I"⟩
abbrev cPa_signals : ByteArray := prog_7_method_8_code
def yPa_signals : MethodName := ⟨RPa, "signals", "()V"⟩
abbrev cPa_sorts : ByteArray := prog_7_method_9_code
def yPa_sorts : MethodName := ⟨RPa, "sorts", "(I)V"⟩
abbrev cPa_route : ByteArray := prog_7_method_10_code
def yPa_route : MethodName := ⟨RPa, "route", "()V"⟩
abbrev cPa_side : ByteArray := prog_7_method_11_code
def yPa_side : MethodName := ⟨RPa, "side", "(I)V"⟩
abbrev cPa_secondNumber : ByteArray := prog_7_method_12_code
def yPa_secondNumber : MethodName := ⟨RPa, "secondNumber", "(I)I"⟩
abbrev cPa_heading : ByteArray := prog_7_method_13_code
def yPa_heading : MethodName := ⟨RPa, "heading", "()V"⟩
abbrev cPa_parameters : ByteArray := prog_7_method_14_code
def yPa_parameters : MethodName := ⟨RPa, "parameters", "()V"⟩
abbrev cPa_variable : ByteArray := prog_7_method_15_code
def yPa_variable : MethodName := ⟨RPa, "variable", "()V"⟩
abbrev cPa_length : ByteArray := prog_7_method_16_code
def yPa_length : MethodName := ⟨RPa, "length", "()I"⟩
abbrev cPa_starting : ByteArray := prog_7_method_17_code
def yPa_starting : MethodName := ⟨RPa, "starting", "()V"⟩
abbrev cPa_stating : ByteArray := prog_7_method_18_code
def yPa_stating : MethodName := ⟨RPa, "stating", "()V"⟩
abbrev cPa_stateName : ByteArray := prog_7_method_19_code
def yPa_stateName : MethodName := ⟨RPa, "stateName", "()V"⟩
abbrev cPa_inputs : ByteArray := prog_7_method_20_code
def yPa_inputs : MethodName := ⟨RPa, "inputs", "()V"⟩
abbrev cPa_in : ByteArray := prog_7_method_21_code
def yPa_in : MethodName := ⟨RPa, "in", "(I)V"⟩
abbrev cPa_saves : ByteArray := prog_7_method_22_code
def yPa_saves : MethodName := ⟨RPa, "saves", "()V"⟩
abbrev cPa_whens : ByteArray := prog_7_method_23_code
def yPa_whens : MethodName := ⟨RPa, "whens", "()V"⟩
abbrev cPa_byItself : ByteArray := prog_7_method_24_code
def yPa_byItself : MethodName := ⟨RPa, "byItself", "()V"⟩
abbrev cPa_finish : ByteArray := prog_7_method_25_code
def yPa_finish : MethodName := ⟨RPa, "finish", "()V"⟩
abbrev cPa_condition : ByteArray := prog_7_method_26_code
def yPa_condition : MethodName := ⟨RPa, "condition", "()I"⟩
abbrev cPa_trans : ByteArray := prog_7_method_27_code
def yPa_trans : MethodName := ⟨RPa, "trans", "()I"⟩
abbrev cPa_beginsAct : ByteArray := prog_7_method_28_code
def yPa_beginsAct : MethodName := ⟨RPa, "beginsAct", "(I)Z"⟩
abbrev cPa_part : ByteArray := prog_7_method_29_code
def yPa_part : MethodName := ⟨RPa, "part", "()Z"⟩
abbrev cPa_act : ByteArray := prog_7_method_30_code
def yPa_act : MethodName := ⟨RPa, "act", "()I"⟩
abbrev cPa_labels : ByteArray := prog_7_method_31_code
def yPa_labels : MethodName := ⟨RPa, "labels", "()V"⟩
abbrev cPa_assignment : ByteArray := prog_7_method_32_code
def yPa_assignment : MethodName := ⟨RPa, "assignment", "(I)V"⟩
abbrev cPa_arguments : ByteArray := prog_7_method_33_code
def yPa_arguments : MethodName := ⟨RPa, "arguments", "()I"⟩
abbrev cPa_direction : ByteArray := prog_7_method_34_code
def yPa_direction : MethodName := ⟨RPa, "direction", "(III)V"⟩
abbrev cPa_next : ByteArray := prog_7_method_35_code
def yPa_next : MethodName := ⟨RPa, "next", "()V"⟩
abbrev cPa_decide : ByteArray := prog_7_method_36_code
def yPa_decide : MethodName := ⟨RPa, "decide", "()Z"⟩
abbrev cPa_beginsRange : ByteArray := prog_7_method_37_code
def yPa_beginsRange : MethodName := ⟨RPa, "beginsRange", "(I)Z"⟩
abbrev cPa_branch : ByteArray := prog_7_method_38_code
def yPa_branch : MethodName := ⟨RPa, "branch", "(I)Z"⟩
abbrev cPa_range : ByteArray := prog_7_method_39_code
def yPa_range : MethodName := ⟨RPa, "range", "()V"⟩
abbrev cPa_bound : ByteArray := prog_7_method_40_code
def yPa_bound : MethodName := ⟨RPa, "bound", "()I"⟩
abbrev cPa_beginsExpression : ByteArray := prog_7_method_41_code
def yPa_beginsExpression : MethodName := ⟨RPa, "beginsExpression", "(I)Z"⟩
abbrev cPa_levelOf : ByteArray := prog_7_method_42_code
def yPa_levelOf : MethodName := ⟨RPa, "levelOf", "(I)I"⟩
abbrev cPa_expression : ByteArray := prog_7_method_43_code
def yPa_expression : MethodName := ⟨RPa, "expression", "(I)V"⟩
abbrev cPa_unary : ByteArray := prog_7_method_44_code
def yPa_unary : MethodName := ⟨RPa, "unary", "()V"⟩
abbrev cPa_operand : ByteArray := prog_7_method_45_code
def yPa_operand : MethodName := ⟨RPa, "operand", "(II)V"⟩
abbrev cPl_init : ByteArray := prog_8_method_1_code
def yPl_init : MethodName := ⟨RPl, "<init>", "()V"⟩
abbrev cPl_clear : ByteArray := prog_8_method_2_code
def yPl_clear : MethodName := ⟨RPl, "clear", "()V"⟩
abbrev cPl_emit : ByteArray := prog_8_method_3_code
def yPl_emit : MethodName := ⟨RPl, "emit", "(IIII)I"⟩
abbrev cPl_addRow : ByteArray := prog_8_method_4_code
def yPl_addRow : MethodName := ⟨RPl, "addRow", "(II)I"⟩
abbrev cPl_ofRow : ByteArray := prog_8_method_5_code
def yPl_ofRow : MethodName := ⟨RPl, "ofRow", "(II)I"⟩
abbrev cPl_tableAt : ByteArray := prog_8_method_6_code
def yPl_tableAt : MethodName := ⟨RPl, "tableAt", "(III)I"⟩
abbrev cPl_entryOf : ByteArray := prog_8_method_7_code
def yPl_entryOf : MethodName := ⟨RPl, "entryOf", "(I)I"⟩
abbrev cPl_teller : ByteArray := prog_8_method_8_code
def yPl_teller : MethodName := ⟨RPl, "teller", "(III)I"⟩
abbrev cPl_findRoute : ByteArray := prog_8_method_9_code
def yPl_findRoute : MethodName := ⟨RPl, "findRoute", "(III)I"⟩
abbrev cRu_init : ByteArray := prog_9_method_1_code
def yRu_init : MethodName := ⟨RRu, "<init>", "(LExchangeHouse$Log;)V"⟩
abbrev cRu_start : ByteArray := prog_9_method_2_code
def yRu_start : MethodName := ⟨RRu, "start", "(LExchangeHouse$Plan;I)I"⟩
abbrev cRu_probe : ByteArray := prog_9_method_3_code
def yRu_probe : MethodName := ⟨RRu, "probe", "(LExchangeHouse$Plan;I)V"⟩
abbrev cRu_later : ByteArray := prog_9_method_4_code
def yRu_later : MethodName := ⟨RRu, "later", "(II)I"⟩
abbrev cRu_advance : ByteArray := prog_9_method_5_code
def yRu_advance : MethodName := ⟨RRu, "advance", "(I)I"⟩
abbrev cRu_takeTurn : ByteArray := prog_9_method_6_code
def yRu_takeTurn : MethodName := ⟨RRu, "takeTurn", "(I)V"⟩
abbrev cRu_nextReady : ByteArray := prog_9_method_7_code
def yRu_nextReady : MethodName := ⟨RRu, "nextReady", "()I"⟩
abbrev cRu_byHand : ByteArray := prog_9_method_8_code
def yRu_byHand : MethodName := ⟨RRu, "byHand", "(I)I"⟩
abbrev cRu_byItself : ByteArray := prog_9_method_9_code
def yRu_byItself : MethodName := ⟨RRu, "byItself", "(II)I"⟩
abbrev cRu_stands : ByteArray := prog_9_method_10_code
def yRu_stands : MethodName := ⟨RRu, "stands", "(III)Z"⟩
abbrev cRu_stir : ByteArray := prog_9_method_11_code
def yRu_stir : MethodName := ⟨RRu, "stir", "(II)V"⟩
abbrev cRu_fromEnv : ByteArray := prog_9_method_12_code
def yRu_fromEnv : MethodName := ⟨RRu, "fromEnv", "(IIIII)Z"⟩
abbrev cRu_valued : ByteArray := prog_9_method_13_code
def yRu_valued : MethodName := ⟨RRu, "valued", "(III)I"⟩
abbrev cRu_bringDue : ByteArray := prog_9_method_14_code
def yRu_bringDue : MethodName := ⟨RRu, "bringDue", "()V"⟩
abbrev cRu_land : ByteArray := prog_9_method_15_code
def yRu_land : MethodName := ⟨RRu, "land", "(I)V"⟩
abbrev cRu_ring : ByteArray := prog_9_method_16_code
def yRu_ring : MethodName := ⟨RRu, "ring", "(II)V"⟩
abbrev cRu_send : ByteArray := prog_9_method_17_code
def yRu_send : MethodName := ⟨RRu, "send", "(I)V"⟩
abbrev cRu_delay : ByteArray := prog_9_method_18_code
def yRu_delay : MethodName := ⟨RRu, "delay", "(I)I"⟩
abbrev cRu_arrive : ByteArray := prog_9_method_19_code
def yRu_arrive : MethodName := ⟨RRu, "arrive", "()V"⟩
abbrev cRu_choose : ByteArray := prog_9_method_20_code
def yRu_choose : MethodName := ⟨RRu, "choose", "(I)I"⟩
abbrev cRu_isBetter : ByteArray := prog_9_method_21_code
def yRu_isBetter : MethodName := ⟨RRu, "isBetter", "(I)Z"⟩
abbrev cRu_holds : ByteArray := prog_9_method_22_code
def yRu_holds : MethodName := ⟨RRu, "holds", "(II)Z"⟩
abbrev cRu_step : ByteArray := prog_9_method_23_code
def yRu_step : MethodName := ⟨RRu, "step", "(II)V"⟩
abbrev cRu_keepValues : ByteArray := prog_9_method_24_code
def yRu_keepValues : MethodName := ⟨RRu, "keepValues", "(I)V"⟩
abbrev cRu_perform : ByteArray := prog_9_method_25_code
def yRu_perform : MethodName := ⟨RRu, "perform", "(II)V"⟩
abbrev cRu_fail : ByteArray := prog_9_method_26_code
def yRu_fail : MethodName := ⟨RRu, "fail", "(I)V"⟩
abbrev cRu_halt : ByteArray := prog_9_method_27_code
def yRu_halt : MethodName := ⟨RRu, "halt", "(I)V"⟩
abbrev cRu_pop : ByteArray := prog_9_method_28_code
def yRu_pop : MethodName := ⟨RRu, "pop", "()I"⟩
abbrev cRu_push : ByteArray := prog_9_method_29_code
def yRu_push : MethodName := ⟨RRu, "push", "(I)V"⟩
abbrev cRu_evaluate : ByteArray := prog_9_method_30_code
def yRu_evaluate : MethodName := ⟨RRu, "evaluate", "(II)I"⟩
abbrev cRu_operand : ByteArray := prog_9_method_31_code
def yRu_operand : MethodName := ⟨RRu, "operand", "(III)I"⟩
abbrev cRu_change : ByteArray := prog_9_method_32_code
def yRu_change : MethodName := ⟨RRu, "change", "(III)I"⟩
abbrev cRu_bound : ByteArray := prog_9_method_33_code
def yRu_bound : MethodName := ⟨RRu, "bound", "(II)I"⟩
abbrev cRu_combine : ByteArray := prog_9_method_34_code
def yRu_combine : MethodName := ⟨RRu, "combine", "(III)I"⟩
abbrev cRu_act : ByteArray := prog_9_method_35_code
def yRu_act : MethodName := ⟨RRu, "act", "(II)I"⟩
abbrev cRu_address : ByteArray := prog_9_method_36_code
def yRu_address : MethodName := ⟨RRu, "address", "(II)V"⟩
abbrev cRu_fill : ByteArray := prog_9_method_37_code
def yRu_fill : MethodName := ⟨RRu, "fill", "(IIII)V"⟩
abbrev cRu_create : ByteArray := prog_9_method_38_code
def yRu_create : MethodName := ⟨RRu, "create", "(III)V"⟩
abbrev cSe_init : ByteArray := prog_10_method_1_code
def ySe_init : MethodName := ⟨RSe, "<init>", "(LExchangeHouse$Runner;)V"⟩
abbrev cSe_forget : ByteArray := prog_10_method_2_code
def ySe_forget : MethodName := ⟨RSe, "forget", "()V"⟩
abbrev cSe_find : ByteArray := prog_10_method_3_code
def ySe_find : MethodName := ⟨RSe, "find", "(LExchangeHouse$Plan;LExchangeHouse$Net;I)I"⟩
abbrev cSe_makeRoom : ByteArray := prog_10_method_4_code
def ySe_makeRoom : MethodName := ⟨RSe, "makeRoom", "()V"⟩
abbrev cSe_keep : ByteArray := prog_10_method_5_code
def ySe_keep : MethodName := ⟨RSe, "keep", "(III)V"⟩
abbrev cSe_hashOf : ByteArray := prog_10_method_6_code
def ySe_hashOf : MethodName := ⟨RSe, "hashOf", "(II)I"⟩
abbrev cSe_goThrough : ByteArray := prog_10_method_7_code
def ySe_goThrough : MethodName := ⟨RSe, "goThrough", "(I)V"⟩
abbrev cSe_stirAll : ByteArray := prog_10_method_8_code
def ySe_stirAll : MethodName := ⟨RSe, "stirAll", "(I)V"⟩
abbrev cSe_look : ByteArray := prog_10_method_9_code
def ySe_look : MethodName := ⟨RSe, "look", "(I)V"⟩
abbrev cSe_isKnown : ByteArray := prog_10_method_10_code
def ySe_isKnown : MethodName := ⟨RSe, "isKnown", "(I)Z"⟩
abbrev cSe_isLike : ByteArray := prog_10_method_11_code
def ySe_isLike : MethodName := ⟨RSe, "isLike", "(III)Z"⟩
abbrev cSe_tally : ByteArray := prog_10_method_12_code
def ySe_tally : MethodName := ⟨RSe, "tally", "(I)I"⟩
abbrev cSe_tell : ByteArray := prog_10_method_13_code
def ySe_tell : MethodName := ⟨RSe, "tell", "(II)I"⟩
abbrev cSe_earliest : ByteArray := prog_10_method_14_code
def ySe_earliest : MethodName := ⟨RSe, "earliest", "(III)I"⟩
abbrev cSe_answers : ByteArray := prog_10_method_15_code
def ySe_answers : MethodName := ⟨RSe, "answers", "(IIII)Z"⟩
abbrev cSe_hasQueued : ByteArray := prog_10_method_16_code
def ySe_hasQueued : MethodName := ⟨RSe, "hasQueued", "(I)Z"⟩
abbrev cSe_hasInstance : ByteArray := prog_10_method_17_code
def ySe_hasInstance : MethodName := ⟨RSe, "hasInstance", "(III)Z"⟩
abbrev cSe_restore : ByteArray := prog_10_method_18_code
def ySe_restore : MethodName := ⟨RSe, "restore", "(ILExchangeHouse$Net;)Z"⟩
abbrev cSh_init : ByteArray := prog_11_method_1_code
def ySh_init : MethodName := ⟨RSh, "<init>", "(LExchangeHouse$Tokens;)V"⟩
abbrev cSh_parse : ByteArray := prog_11_method_2_code
def ySh_parse : MethodName := ⟨RSh, "parse", "(LExchangeHouse$Names;)V"⟩
abbrev cSh_isOver : ByteArray := prog_11_method_3_code
def ySh_isOver : MethodName := ⟨RSh, "isOver", "()Z"⟩
abbrev cSh_point : ByteArray := prog_11_method_4_code
def ySh_point : MethodName := ⟨RSh, "point", "()I"⟩
abbrev cSh_inst : ByteArray := prog_11_method_5_code
def ySh_inst : MethodName := ⟨RSh, "inst", "()V"⟩
abbrev cSh_line : ByteArray := prog_11_method_6_code
def ySh_line : MethodName := ⟨RSh, "line", "(LExchangeHouse$Names;)V"⟩
abbrev cSh_end : ByteArray := prog_11_method_7_code
def ySh_end : MethodName := ⟨RSh, "end", "()I"⟩
abbrev cSh_openPoint : ByteArray := prog_11_method_8_code
def ySh_openPoint : MethodName := ⟨RSh, "openPoint", "(I)V"⟩
abbrev cSh_anotherRow : ByteArray := prog_11_method_9_code
def ySh_anotherRow : MethodName := ⟨RSh, "anotherRow", "()V"⟩
abbrev cSh_compare : ByteArray := prog_11_method_10_code
def ySh_compare : MethodName := ⟨RSh, "compare", "(LExchangeHouse$Log;)Z"⟩
abbrev cSh_chooseNext : ByteArray := prog_11_method_11_code
def ySh_chooseNext : MethodName := ⟨RSh, "chooseNext", "()Z"⟩
abbrev cSh_codeOf : ByteArray := prog_11_method_12_code
def ySh_codeOf : MethodName := ⟨RSh, "codeOf", "(III)J"⟩
abbrev cSh_gather : ByteArray := prog_11_method_13_code
def ySh_gather : MethodName := ⟨RSh, "gather", "(LExchangeHouse$Log;)V"⟩
abbrev cSh_isKept : ByteArray := prog_11_method_14_code
def ySh_isKept : MethodName := ⟨RSh, "isKept", "()Z"⟩
abbrev cSh_isKeptBy : ByteArray := prog_11_method_15_code
def ySh_isKeptBy : MethodName := ⟨RSh, "isKeptBy", "(I)Z"⟩
abbrev cSh_did : ByteArray := prog_11_method_16_code
def ySh_did : MethodName := ⟨RSh, "did", "(IIJ)Z"⟩
abbrev cSh_numberOf : ByteArray := prog_11_method_17_code
def ySh_numberOf : MethodName := ⟨RSh, "numberOf", "(I)I"⟩
abbrev cSh_isChosen : ByteArray := prog_11_method_18_code
def ySh_isChosen : MethodName := ⟨RSh, "isChosen", "(I)Z"⟩
abbrev cTk_init : ByteArray := prog_12_method_1_code
def yTk_init : MethodName := ⟨RTk, "<init>", "()V"⟩
abbrev cTk_learn : ByteArray := prog_12_method_2_code
def yTk_learn : MethodName := ⟨RTk, "learn", "(Ljava/lang/String;I)I"⟩
abbrev cTk_symbol : ByteArray := prog_12_method_3_code
def yTk_symbol : MethodName := ⟨RTk, "symbol", "(I)I"⟩
abbrev cTk_read : ByteArray := prog_12_method_4_code
def yTk_read : MethodName := ⟨RTk, "read", "([BI)V"⟩
abbrev cTk_byteAt : ByteArray := prog_12_method_5_code
def yTk_byteAt : MethodName := ⟨RTk, "byteAt", "(I)I"⟩
abbrev cTk_gap : ByteArray := prog_12_method_6_code
def yTk_gap : MethodName := ⟨RTk, "gap", "(I)I"⟩
abbrev cTk_token : ByteArray := prog_12_method_7_code
def yTk_token : MethodName := ⟨RTk, "token", "(II)I"⟩
abbrev cTk_word : ByteArray := prog_12_method_8_code
def yTk_word : MethodName := ⟨RTk, "word", "(II)I"⟩
abbrev cTk_wordKind : ByteArray := prog_12_method_9_code
def yTk_wordKind : MethodName := ⟨RTk, "wordKind", "(J)I"⟩
abbrev cTk_digits : ByteArray := prog_12_method_10_code
def yTk_digits : MethodName := ⟨RTk, "digits", "(II)I"⟩
abbrev cTk_sign : ByteArray := prog_12_method_11_code
def yTk_sign : MethodName := ⟨RTk, "sign", "(II)I"⟩
abbrev cTk_pairKind : ByteArray := prog_12_method_12_code
def yTk_pairKind : MethodName := ⟨RTk, "pairKind", "(II)I"⟩
abbrev cTk_signKind : ByteArray := prog_12_method_13_code
def yTk_signKind : MethodName := ⟨RTk, "signKind", "(I)I"⟩
abbrev cTk_seen : ByteArray := prog_12_method_14_code
def yTk_seen : MethodName := ⟨RTk, "seen", "()I"⟩
abbrev cTk_take : ByteArray := prog_12_method_15_code
def yTk_take : MethodName := ⟨RTk, "take", "(I)Z"⟩
abbrev cTk_enter : ByteArray := prog_12_method_16_code
def yTk_enter : MethodName := ⟨RTk, "enter", "(I)Z"⟩
abbrev cTk_need : ByteArray := prog_12_method_17_code
def yTk_need : MethodName := ⟨RTk, "need", "(I)V"⟩
abbrev cTk_fail : ByteArray := prog_12_method_18_code
def yTk_fail : MethodName := ⟨RTk, "fail", "(II)V"⟩
abbrev cTk_blame : ByteArray := prog_12_method_19_code
def yTk_blame : MethodName := ⟨RTk, "blame", "(II)V"⟩
abbrev cTk_fault : ByteArray := prog_12_method_20_code
def yTk_fault : MethodName := ⟨RTk, "fault", "()I"⟩
abbrev cTk_faultPlace : ByteArray := prog_12_method_21_code
def yTk_faultPlace : MethodName := ⟨RTk, "faultPlace", "()I"⟩
abbrev cE_init : ByteArray := prog_1_method_1_code
def yE_init : MethodName := ⟨RE, "<init>", "()V"⟩
abbrev cE_feed : ByteArray := prog_1_method_2_code
def yE_feed : MethodName := ⟨RE, "feed", "(IIIII)Z"⟩
abbrev cE_write : ByteArray := prog_1_method_3_code
def yE_write : MethodName := ⟨RE, "write", "(I)V"⟩
abbrev cE_load : ByteArray := prog_1_method_4_code
def yE_load : MethodName := ⟨RE, "load", "(I)I"⟩
abbrev cE_place : ByteArray := prog_1_method_5_code
def yE_place : MethodName := ⟨RE, "place", "()I"⟩
abbrev cE_warning : ByteArray := prog_1_method_6_code
def yE_warning : MethodName := ⟨RE, "warning", "(II)I"⟩
abbrev cE_begin : ByteArray := prog_1_method_7_code
def yE_begin : MethodName := ⟨RE, "begin", "(I)I"⟩
abbrev cE_run : ByteArray := prog_1_method_8_code
def yE_run : MethodName := ⟨RE, "run", "(I)I"⟩
abbrev cE_go : ByteArray := prog_1_method_9_code
def yE_go : MethodName := ⟨RE, "go", "(I)I"⟩
abbrev cE_none : ByteArray := prog_1_method_10_code
def yE_none : MethodName := ⟨RE, "none", "(II)I"⟩
abbrev cE_wait : ByteArray := prog_1_method_11_code
def yE_wait : MethodName := ⟨RE, "wait", "(I)I"⟩
abbrev cE_put : ByteArray := prog_1_method_12_code
def yE_put : MethodName := ⟨RE, "put", "(IIIII)I"⟩
abbrev cE_alive : ByteArray := prog_1_method_13_code
def yE_alive : MethodName := ⟨RE, "alive", "(I)I"⟩
abbrev cE_slot : ByteArray := prog_1_method_14_code
def yE_slot : MethodName := ⟨RE, "slot", "(I)I"⟩
abbrev cE_instance : ByteArray := prog_1_method_15_code
def yE_instance : MethodName := ⟨RE, "instance", "(II)I"⟩
abbrev cE_cell : ByteArray := prog_1_method_16_code
def yE_cell : MethodName := ⟨RE, "cell", "(II)I"⟩
abbrev cE_timer : ByteArray := prog_1_method_17_code
def yE_timer : MethodName := ⟨RE, "timer", "(II)I"⟩
abbrev cE_queued : ByteArray := prog_1_method_18_code
def yE_queued : MethodName := ⟨RE, "queued", "(III)I"⟩
abbrev cE_way : ByteArray := prog_1_method_19_code
def yE_way : MethodName := ⟨RE, "way", "(III)I"⟩
abbrev cE_out : ByteArray := prog_1_method_20_code
def yE_out : MethodName := ⟨RE, "out", "(II)I"⟩
abbrev cE_event : ByteArray := prog_1_method_21_code
def yE_event : MethodName := ⟨RE, "event", "(II)I"⟩
abbrev cE_count : ByteArray := prog_1_method_22_code
def yE_count : MethodName := ⟨RE, "count", "(I)I"⟩
abbrev cE_systemCount : ByteArray := prog_1_method_23_code
def yE_systemCount : MethodName := ⟨RE, "systemCount", "(I)I"⟩
abbrev cE_runCount : ByteArray := prog_1_method_24_code
def yE_runCount : MethodName := ⟨RE, "runCount", "(I)I"⟩
abbrev cE_type : ByteArray := prog_1_method_25_code
def yE_type : MethodName := ⟨RE, "type", "(II)I"⟩
abbrev cE_search : ByteArray := prog_1_method_26_code
def yE_search : MethodName := ⟨RE, "search", "(I)I"⟩
abbrev cE_state : ByteArray := prog_1_method_27_code
def yE_state : MethodName := ⟨RE, "state", "(II)I"⟩
abbrev cE_first : ByteArray := prog_1_method_28_code
def yE_first : MethodName := ⟨RE, "first", "(III)I"⟩
abbrev cE_visit : ByteArray := prog_1_method_29_code
def yE_visit : MethodName := ⟨RE, "visit", "(I)I"⟩
abbrev cE_chart : ByteArray := prog_1_method_30_code
def yE_chart : MethodName := ⟨RE, "chart", "(I)I"⟩
abbrev cE_choices : ByteArray := prog_1_method_31_code
def yE_choices : MethodName := ⟨RE, "choices", "(I)I"⟩
abbrev cM_init : ByteArray := prog_14_method_1_code
def yM_init : MethodName := ⟨RM, "<init>", "()V"⟩
abbrev cM_feed : ByteArray := prog_14_method_2_code
def yM_feed : MethodName := ⟨RM, "feed", "(IIIII)Z"⟩
abbrev cM_four : ByteArray := prog_14_method_3_code
def yM_four : MethodName := ⟨RM, "four", "(I)V"⟩
abbrev cM_toText : ByteArray := prog_14_method_4_code
def yM_toText : MethodName := ⟨RM, "toText", "(I)V"⟩
abbrev cM_isLetter : ByteArray := prog_14_method_5_code
def yM_isLetter : MethodName := ⟨RM, "isLetter", "(I)Z"⟩
abbrev cM_isDigit : ByteArray := prog_14_method_6_code
def yM_isDigit : MethodName := ⟨RM, "isDigit", "(I)Z"⟩
abbrev cM_code : ByteArray := prog_14_method_7_code
def yM_code : MethodName := ⟨RM, "code", "(I)I"⟩
abbrev cM_byteAt : ByteArray := prog_14_method_8_code
def yM_byteAt : MethodName := ⟨RM, "byteAt", "(I)I"⟩
abbrev cM_token : ByteArray := prog_14_method_9_code
def yM_token : MethodName := ⟨RM, "token", "(IIJ)V"⟩
abbrev cM_cut : ByteArray := prog_14_method_10_code
def yM_cut : MethodName := ⟨RM, "cut", "()V"⟩
abbrev cM_behindBlanks : ByteArray := prog_14_method_11_code
def yM_behindBlanks : MethodName := ⟨RM, "behindBlanks", "(I)I"⟩
abbrev cM_one : ByteArray := prog_14_method_12_code
def yM_one : MethodName := ⟨RM, "one", "(I)I"⟩
abbrev cM_nameFrom : ByteArray := prog_14_method_13_code
def yM_nameFrom : MethodName := ⟨RM, "nameFrom", "(I)I"⟩
abbrev cM_numberFrom : ByteArray := prog_14_method_14_code
def yM_numberFrom : MethodName := ⟨RM, "numberFrom", "(I)I"⟩
abbrev cM_breaks : ByteArray := prog_14_method_15_code
def yM_breaks : MethodName := ⟨RM, "breaks", "(II)V"⟩
abbrev cM_wrong : ByteArray := prog_14_method_16_code
def yM_wrong : MethodName := ⟨RM, "wrong", "()V"⟩
abbrev cM_note : ByteArray := prog_14_method_17_code
def yM_note : MethodName := ⟨RM, "note", "(II)V"⟩
abbrev cM_stops : ByteArray := prog_14_method_18_code
def yM_stops : MethodName := ⟨RM, "stops", "()Z"⟩
abbrev cM_isSign : ByteArray := prog_14_method_19_code
def yM_isSign : MethodName := ⟨RM, "isSign", "(I)Z"⟩
abbrev cM_isWord : ByteArray := prog_14_method_20_code
def yM_isWord : MethodName := ⟨RM, "isWord", "(I)Z"⟩
abbrev cM_take : ByteArray := prog_14_method_21_code
def yM_take : MethodName := ⟨RM, "take", "()V"⟩
abbrev cM_maySign : ByteArray := prog_14_method_22_code
def yM_maySign : MethodName := ⟨RM, "maySign", "(I)Z"⟩
abbrev cM_mayWord : ByteArray := prog_14_method_23_code
def yM_mayWord : MethodName := ⟨RM, "mayWord", "(I)Z"⟩
abbrev cM_sign : ByteArray := prog_14_method_24_code
def yM_sign : MethodName := ⟨RM, "sign", "(I)V"⟩
abbrev cM_word : ByteArray := prog_14_method_25_code
def yM_word : MethodName := ⟨RM, "word", "(I)V"⟩
abbrev cM_name : ByteArray := prog_14_method_26_code
def yM_name : MethodName := ⟨RM, "name", "()I"⟩
abbrev cM_number : ByteArray := prog_14_method_27_code
def yM_number : MethodName := ⟨RM, "number", "()I"⟩
abbrev cM_bounded : ByteArray := prog_14_method_28_code
def yM_bounded : MethodName := ⟨RM, "bounded", "(I)I"⟩
abbrev cM_opens : ByteArray := prog_14_method_29_code
def yM_opens : MethodName := ⟨RM, "opens", "()V"⟩
abbrev cM_openSign : ByteArray := prog_14_method_30_code
def yM_openSign : MethodName := ⟨RM, "openSign", "(I)V"⟩
abbrev cM_closeSign : ByteArray := prog_14_method_31_code
def yM_closeSign : MethodName := ⟨RM, "closeSign", "(I)V"⟩
abbrev cM_signalOf : ByteArray := prog_14_method_32_code
def yM_signalOf : MethodName := ⟨RM, "signalOf", "(J)I"⟩
abbrev cM_routeOf : ByteArray := prog_14_method_33_code
def yM_routeOf : MethodName := ⟨RM, "routeOf", "(J)I"⟩
abbrev cM_typeOf : ByteArray := prog_14_method_34_code
def yM_typeOf : MethodName := ⟨RM, "typeOf", "(J)I"⟩
abbrev cM_variableOf : ByteArray := prog_14_method_35_code
def yM_variableOf : MethodName := ⟨RM, "variableOf", "(IJ)I"⟩
abbrev cM_timerOf : ByteArray := prog_14_method_36_code
def yM_timerOf : MethodName := ⟨RM, "timerOf", "(IJ)I"⟩
abbrev cM_stateOf : ByteArray := prog_14_method_37_code
def yM_stateOf : MethodName := ⟨RM, "stateOf", "(IJ)I"⟩
abbrev cM_labelOf : ByteArray := prog_14_method_38_code
def yM_labelOf : MethodName := ⟨RM, "labelOf", "(IJ)I"⟩
abbrev cM_global : ByteArray := prog_14_method_39_code
def yM_global : MethodName := ⟨RM, "global", "(I)V"⟩
abbrev cM_sort : ByteArray := prog_14_method_40_code
def yM_sort : MethodName := ⟨RM, "sort", "()I"⟩
abbrev cM_system : ByteArray := prog_14_method_41_code
def yM_system : MethodName := ⟨RM, "system", "()V"⟩
abbrev cM_signals : ByteArray := prog_14_method_42_code
def yM_signals : MethodName := ⟨RM, "signals", "()V"⟩
abbrev cM_sorts : ByteArray := prog_14_method_43_code
def yM_sorts : MethodName := ⟨RM, "sorts", "(I)V"⟩
abbrev cM_side : ByteArray := prog_14_method_44_code
def yM_side : MethodName := ⟨RM, "side", "()J"⟩
abbrev cM_routeLine : ByteArray := prog_14_method_45_code
def yM_routeLine : MethodName := ⟨RM, "routeLine", "(I)V"⟩
abbrev cM_resolve : ByteArray := prog_14_method_46_code
def yM_resolve : MethodName := ⟨RM, "resolve", "()V"⟩
abbrev cM_process : ByteArray := prog_14_method_47_code
def yM_process : MethodName := ⟨RM, "process", "(I)V"⟩
abbrev cM_pars : ByteArray := prog_14_method_48_code
def yM_pars : MethodName := ⟨RM, "pars", "()I"⟩
abbrev cM_variable : ByteArray := prog_14_method_49_code
def yM_variable : MethodName := ⟨RM, "variable", "(II)V"⟩
abbrev cM_own : ByteArray := prog_14_method_50_code
def yM_own : MethodName := ⟨RM, "own", "(I)V"⟩
abbrev cM_holds : ByteArray := prog_14_method_51_code
def yM_holds : MethodName := ⟨RM, "holds", "(IIII)V"⟩
abbrev cM_declarations : ByteArray := prog_14_method_52_code
def yM_declarations : MethodName := ⟨RM, "declarations", "(I)V"⟩
abbrev cM_declared : ByteArray := prog_14_method_53_code
def yM_declared : MethodName := ⟨RM, "declared", "(I)V"⟩
abbrev cM_timerLine : ByteArray := prog_14_method_54_code
def yM_timerLine : MethodName := ⟨RM, "timerLine", "(I)V"⟩
abbrev cM_stateLine : ByteArray := prog_14_method_55_code
def yM_stateLine : MethodName := ⟨RM, "stateLine", "()V"⟩
abbrev cM_stateHere : ByteArray := prog_14_method_56_code
def yM_stateHere : MethodName := ⟨RM, "stateHere", "(I)I"⟩
abbrev cM_stim : ByteArray := prog_14_method_57_code
def yM_stim : MethodName := ⟨RM, "stim", "(II)I"⟩
abbrev cM_endStim : ByteArray := prog_14_method_58_code
def yM_endStim : MethodName := ⟨RM, "endStim", "(I)V"⟩
abbrev cM_input : ByteArray := prog_14_method_59_code
def yM_input : MethodName := ⟨RM, "input", "(I)V"⟩
abbrev cM_save : ByteArray := prog_14_method_60_code
def yM_save : MethodName := ⟨RM, "save", "(I)V"⟩
abbrev cM_heard : ByteArray := prog_14_method_61_code
def yM_heard : MethodName := ⟨RM, "heard", "(IIZ)V"⟩
abbrev cM_again : ByteArray := prog_14_method_62_code
def yM_again : MethodName := ⟨RM, "again", "(III)V"⟩
abbrev cM_valuesOf : ByteArray := prog_14_method_63_code
def yM_valuesOf : MethodName := ⟨RM, "valuesOf", "(III)V"⟩
abbrev cM_into : ByteArray := prog_14_method_64_code
def yM_into : MethodName := ⟨RM, "into", "(IIIII)V"⟩
abbrev cM_when : ByteArray := prog_14_method_65_code
def yM_when : MethodName := ⟨RM, "when", "(I)V"⟩
abbrev cM_emit : ByteArray := prog_14_method_66_code
def yM_emit : MethodName := ⟨RM, "emit", "(II)I"⟩
abbrev cM_isLabel : ByteArray := prog_14_method_67_code
def yM_isLabel : MethodName := ⟨RM, "isLabel", "()Z"⟩
abbrev cM_isAct : ByteArray := prog_14_method_68_code
def yM_isAct : MethodName := ⟨RM, "isAct", "()Z"⟩
abbrev cM_isLast : ByteArray := prog_14_method_69_code
def yM_isLast : MethodName := ⟨RM, "isLast", "()Z"⟩
abbrev cM_isRange : ByteArray := prog_14_method_70_code
def yM_isRange : MethodName := ⟨RM, "isRange", "()Z"⟩
abbrev cM_trans : ByteArray := prog_14_method_71_code
def yM_trans : MethodName := ⟨RM, "trans", "(ZI)V"⟩
abbrev cM_label : ByteArray := prog_14_method_72_code
def yM_label : MethodName := ⟨RM, "label", "(I)V"⟩
abbrev cM_last : ByteArray := prog_14_method_73_code
def yM_last : MethodName := ⟨RM, "last", "(I)V"⟩
abbrev cM_next : ByteArray := prog_14_method_74_code
def yM_next : MethodName := ⟨RM, "next", "(II)V"⟩
abbrev cM_act : ByteArray := prog_14_method_75_code
def yM_act : MethodName := ⟨RM, "act", "()V"⟩
abbrev cM_timerNamed : ByteArray := prog_14_method_76_code
def yM_timerNamed : MethodName := ⟨RM, "timerNamed", "()I"⟩
abbrev cM_assign : ByteArray := prog_14_method_77_code
def yM_assign : MethodName := ⟨RM, "assign", "(I)V"⟩
abbrev cM_output : ByteArray := prog_14_method_78_code
def yM_output : MethodName := ⟨RM, "output", "(I)V"⟩
abbrev cM_create : ByteArray := prog_14_method_79_code
def yM_create : MethodName := ⟨RM, "create", "(I)V"⟩
abbrev cM_values : ByteArray := prog_14_method_80_code
def yM_values : MethodName := ⟨RM, "values", "(IIII)V"⟩
abbrev cM_fourth : ByteArray := prog_14_method_81_code
def yM_fourth : MethodName := ⟨RM, "fourth", "()V"⟩
abbrev cM_decide : ByteArray := prog_14_method_82_code
def yM_decide : MethodName := ⟨RM, "decide", "()V"⟩
abbrev cM_branch : ByteArray := prog_14_method_83_code
def yM_branch : MethodName := ⟨RM, "branch", "()V"⟩
abbrev cM_range : ByteArray := prog_14_method_84_code
def yM_range : MethodName := ⟨RM, "range", "(II)V"⟩
abbrev cM_bound : ByteArray := prog_14_method_85_code
def yM_bound : MethodName := ⟨RM, "bound", "()I"⟩
abbrev cM_behindPart : ByteArray := prog_14_method_86_code
def yM_behindPart : MethodName := ⟨RM, "behindPart", "()V"⟩
abbrev cM_wanted : ByteArray := prog_14_method_87_code
def yM_wanted : MethodName := ⟨RM, "wanted", "(I)I"⟩
abbrev cM_put : ByteArray := prog_14_method_88_code
def yM_put : MethodName := ⟨RM, "put", "(II)V"⟩
abbrev cM_operand : ByteArray := prog_14_method_89_code
def yM_operand : MethodName := ⟨RM, "operand", "(IIZ)V"⟩
abbrev cM_expression : ByteArray := prog_14_method_90_code
def yM_expression : MethodName := ⟨RM, "expression", "()V"⟩
abbrev cM_lastBracket : ByteArray := prog_14_method_91_code
def yM_lastBracket : MethodName := ⟨RM, "lastBracket", "()I"⟩
abbrev cM_hold : ByteArray := prog_14_method_92_code
def yM_hold : MethodName := ⟨RM, "hold", "(II)V"⟩
abbrev cM_bracket : ByteArray := prog_14_method_93_code
def yM_bracket : MethodName := ⟨RM, "bracket", "(II)V"⟩
abbrev cM_start : ByteArray := prog_14_method_94_code
def yM_start : MethodName := ⟨RM, "start", "()Z"⟩
abbrev cM_told : ByteArray := prog_14_method_95_code
def yM_told : MethodName := ⟨RM, "told", "(I)Z"⟩
abbrev cM_named : ByteArray := prog_14_method_96_code
def yM_named : MethodName := ⟨RM, "named", "(I)Z"⟩
abbrev cM_prefixes : ByteArray := prog_14_method_97_code
def yM_prefixes : MethodName := ⟨RM, "prefixes", "()V"⟩
abbrev cM_asks : ByteArray := prog_14_method_98_code
def yM_asks : MethodName := ⟨RM, "asks", "(II)Z"⟩
abbrev cM_closes : ByteArray := prog_14_method_99_code
def yM_closes : MethodName := ⟨RM, "closes", "()V"⟩
abbrev cM_level : ByteArray := prog_14_method_100_code
def yM_level : MethodName := ⟨RM, "level", "()I"⟩
abbrev cM_signHere : ByteArray := prog_14_method_101_code
def yM_signHere : MethodName := ⟨RM, "signHere", "()I"⟩
abbrev cM_levelOf : ByteArray := prog_14_method_102_code
def yM_levelOf : MethodName := ⟨RM, "levelOf", "(I)I"⟩
abbrev cM_between : ByteArray := prog_14_method_103_code
def yM_between : MethodName := ⟨RM, "between", "(I)V"⟩
abbrev cM_reduce : ByteArray := prog_14_method_104_code
def yM_reduce : MethodName := ⟨RM, "reduce", "(I)V"⟩
abbrev cM_parse : ByteArray := prog_14_method_105_code
def yM_parse : MethodName := ⟨RM, "parse", "()Z"⟩
abbrev cM_load : ByteArray := prog_14_method_106_code
def yM_load : MethodName := ⟨RM, "load", "(I)I"⟩
abbrev cM_place : ByteArray := prog_14_method_107_code
def yM_place : MethodName := ⟨RM, "place", "()I"⟩
abbrev cM_warnOf : ByteArray := prog_14_method_108_code
def yM_warnOf : MethodName := ⟨RM, "warnOf", "(II)V"⟩
abbrev cM_warn : ByteArray := prog_14_method_109_code
def yM_warn : MethodName := ⟨RM, "warn", "()V"⟩
abbrev cM_come : ByteArray := prog_14_method_110_code
def yM_come : MethodName := ⟨RM, "come", "(I)V"⟩
abbrev cM_warning : ByteArray := prog_14_method_111_code
def yM_warning : MethodName := ⟨RM, "warning", "(II)I"⟩
abbrev cM_base : ByteArray := prog_14_method_112_code
def yM_base : MethodName := ⟨RM, "base", "(I)I"⟩
abbrev cM_slotOf : ByteArray := prog_14_method_113_code
def yM_slotOf : MethodName := ⟨RM, "slotOf", "(I)I"⟩
abbrev cM_row : ByteArray := prog_14_method_114_code
def yM_row : MethodName := ⟨RM, "row", "(I)I"⟩
abbrev cM_write : ByteArray := prog_14_method_115_code
def yM_write : MethodName := ⟨RM, "write", "(IIII)V"⟩
abbrev cM_lose : ByteArray := prog_14_method_116_code
def yM_lose : MethodName := ⟨RM, "lose", "(III)V"⟩
abbrev cM_arrive : ByteArray := prog_14_method_117_code
def yM_arrive : MethodName := ⟨RM, "arrive", "(III)V"⟩
abbrev cM_writeOut : ByteArray := prog_14_method_118_code
def yM_writeOut : MethodName := ⟨RM, "writeOut", "(II)V"⟩
abbrev cM_queue : ByteArray := prog_14_method_119_code
def yM_queue : MethodName := ⟨RM, "queue", "(III)Z"⟩
abbrev cM_unqueue : ByteArray := prog_14_method_120_code
def yM_unqueue : MethodName := ⟨RM, "unqueue", "(II)V"⟩
abbrev cM_send : ByteArray := prog_14_method_121_code
def yM_send : MethodName := ⟨RM, "send", "(IIII)V"⟩
abbrev cM_timeOn : ByteArray := prog_14_method_122_code
def yM_timeOn : MethodName := ⟨RM, "timeOn", "(II)I"⟩
abbrev cM_firstOf : ByteArray := prog_14_method_123_code
def yM_firstOf : MethodName := ⟨RM, "firstOf", "(I)V"⟩
abbrev cM_timerComes : ByteArray := prog_14_method_124_code
def yM_timerComes : MethodName := ⟨RM, "timerComes", "(II)V"⟩
abbrev cM_due : ByteArray := prog_14_method_125_code
def yM_due : MethodName := ⟨RM, "due", "()V"⟩
abbrev cM_make : ByteArray := prog_14_method_126_code
def yM_make : MethodName := ⟨RM, "make", "(II)I"⟩
abbrev cM_stop : ByteArray := prog_14_method_127_code
def yM_stop : MethodName := ⟨RM, "stop", "(I)V"⟩
abbrev cM_fail : ByteArray := prog_14_method_128_code
def yM_fail : MethodName := ⟨RM, "fail", "(III)V"⟩
abbrev cM_work : ByteArray := prog_14_method_129_code
def yM_work : MethodName := ⟨RM, "work", "(II)I"⟩
abbrev cM_push : ByteArray := prog_14_method_130_code
def yM_push : MethodName := ⟨RM, "push", "(I)V"⟩
abbrev cM_formStep : ByteArray := prog_14_method_131_code
def yM_formStep : MethodName := ⟨RM, "formStep", "(III)V"⟩
abbrev cM_two : ByteArray := prog_14_method_132_code
def yM_two : MethodName := ⟨RM, "two", "(III)V"⟩
abbrev cM_isSo : ByteArray := prog_14_method_133_code
def yM_isSo : MethodName := ⟨RM, "isSo", "(III)Z"⟩
abbrev cM_isActive : ByteArray := prog_14_method_134_code
def yM_isActive : MethodName := ⟨RM, "isActive", "(II)Z"⟩
abbrev cM_perform : ByteArray := prog_14_method_135_code
def yM_perform : MethodName := ⟨RM, "perform", "(II)V"⟩
abbrev cM_goal : ByteArray := prog_14_method_136_code
def yM_goal : MethodName := ⟨RM, "goal", "(II)I"⟩
abbrev cM_does : ByteArray := prog_14_method_137_code
def yM_does : MethodName := ⟨RM, "does", "(II)I"⟩
abbrev cM_assigns : ByteArray := prog_14_method_138_code
def yM_assigns : MethodName := ⟨RM, "assigns", "(II)I"⟩
abbrev cM_unset : ByteArray := prog_14_method_139_code
def yM_unset : MethodName := ⟨RM, "unset", "(II)V"⟩
abbrev cM_workAll : ByteArray := prog_14_method_140_code
def yM_workAll : MethodName := ⟨RM, "workAll", "(II)I"⟩
abbrev cM_makes : ByteArray := prog_14_method_141_code
def yM_makes : MethodName := ⟨RM, "makes", "(II)I"⟩
abbrev cM_sends : ByteArray := prog_14_method_142_code
def yM_sends : MethodName := ⟨RM, "sends", "(II)I"⟩
abbrev cM_route : ByteArray := prog_14_method_143_code
def yM_route : MethodName := ⟨RM, "route", "(IIIZ)I"⟩
abbrev cM_least : ByteArray := prog_14_method_144_code
def yM_least : MethodName := ⟨RM, "least", "(I)I"⟩
abbrev cM_isTrue : ByteArray := prog_14_method_145_code
def yM_isTrue : MethodName := ⟨RM, "isTrue", "(II)Z"⟩
abbrev cM_listed : ByteArray := prog_14_method_146_code
def yM_listed : MethodName := ⟨RM, "listed", "(III)Z"⟩
abbrev cM_stepOf : ByteArray := prog_14_method_147_code
def yM_stepOf : MethodName := ⟨RM, "stepOf", "(I)I"⟩
abbrev cM_step : ByteArray := prog_14_method_148_code
def yM_step : MethodName := ⟨RM, "step", "(II)V"⟩
abbrev cM_begin : ByteArray := prog_14_method_149_code
def yM_begin : MethodName := ⟨RM, "begin", "(I)I"⟩
abbrev cM_run : ByteArray := prog_14_method_150_code
def yM_run : MethodName := ⟨RM, "run", "(I)I"⟩
abbrev cM_ready : ByteArray := prog_14_method_151_code
def yM_ready : MethodName := ⟨RM, "ready", "()I"⟩
abbrev cM_leastTime : ByteArray := prog_14_method_152_code
def yM_leastTime : MethodName := ⟨RM, "leastTime", "()I"⟩
abbrev cM_go : ByteArray := prog_14_method_153_code
def yM_go : MethodName := ⟨RM, "go", "(I)I"⟩
abbrev cM_freely : ByteArray := prog_14_method_154_code
def yM_freely : MethodName := ⟨RM, "freely", "(II)I"⟩
abbrev cM_spontaneous : ByteArray := prog_14_method_155_code
def yM_spontaneous : MethodName := ⟨RM, "spontaneous", "(II)V"⟩
abbrev cM_none : ByteArray := prog_14_method_156_code
def yM_none : MethodName := ⟨RM, "none", "(II)I"⟩
abbrev cM_wait : ByteArray := prog_14_method_157_code
def yM_wait : MethodName := ⟨RM, "wait", "(I)I"⟩
abbrev cM_put_ : ByteArray := prog_14_method_158_code
def yM_put_ : MethodName := ⟨RM, "put", "(IIIII)I"⟩
abbrev cM_slotAsked : ByteArray := prog_14_method_159_code
def yM_slotAsked : MethodName := ⟨RM, "slotAsked", "(I)I"⟩
abbrev cM_alive : ByteArray := prog_14_method_160_code
def yM_alive : MethodName := ⟨RM, "alive", "(I)I"⟩
abbrev cM_instance : ByteArray := prog_14_method_161_code
def yM_instance : MethodName := ⟨RM, "instance", "(II)I"⟩
abbrev cM_cell : ByteArray := prog_14_method_162_code
def yM_cell : MethodName := ⟨RM, "cell", "(II)I"⟩
abbrev cM_timer : ByteArray := prog_14_method_163_code
def yM_timer : MethodName := ⟨RM, "timer", "(II)I"⟩
abbrev cM_queued : ByteArray := prog_14_method_164_code
def yM_queued : MethodName := ⟨RM, "queued", "(III)I"⟩
abbrev cM_way : ByteArray := prog_14_method_165_code
def yM_way : MethodName := ⟨RM, "way", "(III)I"⟩
abbrev cM_out : ByteArray := prog_14_method_166_code
def yM_out : MethodName := ⟨RM, "out", "(II)I"⟩
abbrev cM_event : ByteArray := prog_14_method_167_code
def yM_event : MethodName := ⟨RM, "event", "(II)I"⟩
abbrev cM_count : ByteArray := prog_14_method_168_code
def yM_count : MethodName := ⟨RM, "count", "(I)I"⟩
abbrev cM_counted : ByteArray := prog_14_method_169_code
def yM_counted : MethodName := ⟨RM, "counted", "(I)I"⟩
abbrev cM_type : ByteArray := prog_14_method_170_code
def yM_type : MethodName := ⟨RM, "type", "(II)I"⟩
abbrev cM_load1 : ByteArray := prog_14_method_171_code
def yM_load1 : MethodName := ⟨RM, "load1", "(I)V"⟩
abbrev cM_plain : ByteArray := prog_14_method_172_code
def yM_plain : MethodName := ⟨RM, "plain", "()V"⟩
abbrev cM_sum : ByteArray := prog_14_method_173_code
def yM_sum : MethodName := ⟨RM, "sum", "()I"⟩
abbrev cM_isState : ByteArray := prog_14_method_174_code
def yM_isState : MethodName := ⟨RM, "isState", "(II)Z"⟩
abbrev cM_keep : ByteArray := prog_14_method_175_code
def yM_keep : MethodName := ⟨RM, "keep", "(III)V"⟩
abbrev cM_moved : ByteArray := prog_14_method_176_code
def yM_moved : MethodName := ⟨RM, "moved", "(I)V"⟩
abbrev cM_tries : ByteArray := prog_14_method_177_code
def yM_tries : MethodName := ⟨RM, "tries", "(I)V"⟩
abbrev cM_stepsOf : ByteArray := prog_14_method_178_code
def yM_stepsOf : MethodName := ⟨RM, "stepsOf", "(I)V"⟩
abbrev cM_arrivalsOf : ByteArray := prog_14_method_179_code
def yM_arrivalsOf : MethodName := ⟨RM, "arrivalsOf", "(I)V"⟩
abbrev cM_timersOf : ByteArray := prog_14_method_180_code
def yM_timersOf : MethodName := ⟨RM, "timersOf", "(I)V"⟩
abbrev cM_freeOf : ByteArray := prog_14_method_181_code
def yM_freeOf : MethodName := ⟨RM, "freeOf", "(I)V"⟩
abbrev cM_search : ByteArray := prog_14_method_182_code
def yM_search : MethodName := ⟨RM, "search", "(I)I"⟩
abbrev cM_state : ByteArray := prog_14_method_183_code
def yM_state : MethodName := ⟨RM, "state", "(II)I"⟩
abbrev cM_first : ByteArray := prog_14_method_184_code
def yM_first : MethodName := ⟨RM, "first", "(III)I"⟩
abbrev cM_waitsAny : ByteArray := prog_14_method_185_code
def yM_waitsAny : MethodName := ⟨RM, "waitsAny", "(I)Z"⟩
abbrev cM_isIn : ByteArray := prog_14_method_186_code
def yM_isIn : MethodName := ⟨RM, "isIn", "(III)Z"⟩
abbrev cM_visit : ByteArray := prog_14_method_187_code
def yM_visit : MethodName := ⟨RM, "visit", "(I)I"⟩
abbrev cM_chartText : ByteArray := prog_14_method_188_code
def yM_chartText : MethodName := ⟨RM, "chartText", "()V"⟩
abbrev cM_instOf : ByteArray := prog_14_method_189_code
def yM_instOf : MethodName := ⟨RM, "instOf", "(J)I"⟩
abbrev cM_inst : ByteArray := prog_14_method_190_code
def yM_inst : MethodName := ⟨RM, "inst", "()V"⟩
abbrev cM_party : ByteArray := prog_14_method_191_code
def yM_party : MethodName := ⟨RM, "party", "()I"⟩
abbrev cM_line : ByteArray := prog_14_method_192_code
def yM_line : MethodName := ⟨RM, "line", "()V"⟩
abbrev cM_block : ByteArray := prog_14_method_193_code
def yM_block : MethodName := ⟨RM, "block", "()V"⟩
abbrev cM_orRow : ByteArray := prog_14_method_194_code
def yM_orRow : MethodName := ⟨RM, "orRow", "()V"⟩
abbrev cM_isChosen : ByteArray := prog_14_method_195_code
def yM_isChosen : MethodName := ⟨RM, "isChosen", "(I)Z"⟩
abbrev cM_isNamed : ByteArray := prog_14_method_196_code
def yM_isNamed : MethodName := ⟨RM, "isNamed", "(I)Z"⟩
abbrev cM_nextEvent : ByteArray := prog_14_method_197_code
def yM_nextEvent : MethodName := ⟨RM, "nextEvent", "(II)I"⟩
abbrev cM_isNext : ByteArray := prog_14_method_198_code
def yM_isNext : MethodName := ⟨RM, "isNext", "(IIII)Z"⟩
abbrev cM_keeps : ByteArray := prog_14_method_199_code
def yM_keeps : MethodName := ⟨RM, "keeps", "(I)Z"⟩
abbrev cM_allKeep : ByteArray := prog_14_method_200_code
def yM_allKeep : MethodName := ⟨RM, "allKeep", "()Z"⟩
abbrev cM_changes : ByteArray := prog_14_method_201_code
def yM_changes : MethodName := ⟨RM, "changes", "()Z"⟩
abbrev cM_judge : ByteArray := prog_14_method_202_code
def yM_judge : MethodName := ⟨RM, "judge", "()V"⟩
abbrev cM_chart : ByteArray := prog_14_method_203_code
def yM_chart : MethodName := ⟨RM, "chart", "(I)I"⟩
abbrev cM_choices : ByteArray := prog_14_method_204_code
def yM_choices : MethodName := ⟨RM, "choices", "(I)I"⟩
abbrev cJ9_max_7cf53 : ByteArray := prog_16_method_65_code
def yJ9_max_7cf53 : MethodName := ⟨RJ9, "max", "(II)I"⟩
abbrev cJ9_min_7cf53 : ByteArray := prog_16_method_69_code
def yJ9_min_7cf53 : MethodName := ⟨RJ9, "min", "(II)I"⟩
abbrev cJ9_min_f86c9 : ByteArray := prog_16_method_70_code
def yJ9_min_f86c9 : MethodName := ⟨RJ9, "min", "(JJ)J"⟩
abbrev cJ0_length_8abf5 : ByteArray := prog_17_method_54_code
def yJ0_length_8abf5 : MethodName := ⟨RJ0, "length", "()I"⟩
abbrev cJ0_charAt_5068e : ByteArray := prog_17_method_56_code
def yJ0_charAt_5068e : MethodName := ⟨RJ0, "charAt", "(I)C"⟩
abbrev cJ0_coder_7d493 : ByteArray := prog_17_method_152_code
def yJ0_coder_7d493 : MethodName := ⟨RJ0, "coder", "()B"⟩
abbrev cJ0_isLatin1_aae02 : ByteArray := prog_17_method_154_code
def yJ0_isLatin1_aae02 : MethodName := ⟨RJ0, "isLatin1", "()Z"⟩
abbrev cJ0_checkIndex_df160 : ByteArray := prog_17_method_155_code
def yJ0_checkIndex_df160 : MethodName := ⟨RJ0, "checkIndex", "(II)V"⟩
abbrev cJ1_charAt_3b067 : ByteArray := prog_18_method_2_code
def yJ1_charAt_3b067 : MethodName := ⟨RJ1, "charAt", "([BI)C"⟩
abbrev cJ2_getChar_3b067 : ByteArray := prog_19_method_5_code
def yJ2_getChar_3b067 : MethodName := ⟨RJ2, "getChar", "([BI)C"⟩
abbrev cJ2_length_9d52b : ByteArray := prog_19_method_6_code
def yJ2_length_9d52b : MethodName := ⟨RJ2, "length", "([B)I"⟩
abbrev cJ2_charAt_3b067 : ByteArray := prog_19_method_83_code
def yJ2_charAt_3b067 : MethodName := ⟨RJ2, "charAt", "([BI)C"⟩
abbrev cJ2_checkIndex_2214a : ByteArray := prog_19_method_91_code
def yJ2_checkIndex_2214a : MethodName := ⟨RJ2, "checkIndex", "(I[B)V"⟩
abbrev cJ7_rangeCheck_23922 : ByteArray := prog_21_method_30_code
def yJ7_rangeCheck_23922 : MethodName := ⟨RJ7, "rangeCheck", "(III)V"⟩
abbrev cJ7_fill_53178 : ByteArray := prog_21_method_103_code
def yJ7_fill_53178 : MethodName := ⟨RJ7, "fill", "([II)V"⟩
abbrev cJ7_fill_fda19 : ByteArray := prog_21_method_104_code
def yJ7_fill_fda19 : MethodName := ⟨RJ7, "fill", "([IIII)V"⟩
abbrev cJ7_copyOf_59c91 : ByteArray := prog_21_method_123_code
def yJ7_copyOf_59c91 : MethodName := ⟨RJ7, "copyOf", "([II)[I"⟩
abbrev cJ3_checkIndex_8e157 : ByteArray := prog_22_method_11_code
def yJ3_checkIndex_8e157 : MethodName := ⟨RJ3, "checkIndex", "(IILjava/util/function/BiFunction;)I"⟩
abbrev vwCl : List vw_C := [(RM, TM, 190), (RE, TE, 12), (RTk, TTk, 12), (RPa, TPa, 6), (RJu, TJu, 10), (RPl, TPl, 20), (RKd, TKd, 17), (RNa, TNa, 3), (RLo, TLo, 14), (RNe, TNe, 17), (RRu, TRu, 16), (RSe, TSe, 18), (RSh, TSh, 19)]
end
section
/-! the base: every method has all of the tables' words; contracts over worlds; entry, return, calls -/
/-- the tables' words but those on String constants -/
def tb : List Cond := lw_tbl.filter goodWord
theorem tm {w : Cond} (i : Nat) (h : lw_tbl[i]? = some w) (hg : goodWord w = true) : w ∈ tb := List.mem_filter.mpr ⟨List.mem_of_getElem? h, hg⟩
abbrev aw (y : MethodName) (b : ByteArray) (n : Nat) (r : Option FieldType) : List Cond := Cond.code y b n r :: tb
theorem tb_g {w : Cond} (h : w ∈ tb) : (w.onTables && w.keeps) = true ∨ ∃ ty, w = .arrayClass ty := good_of_word (List.mem_filter.mp h).2
theorem aw_in {y : MethodName} {b : ByteArray} {n : Nat} {r : Option FieldType} (h : Cond.code y b n r ∈ tb) : GoodIn tb (aw y b n r) := by
  intro w hw
  have hm : w ∈ tb := by
    rcases List.mem_cons.mp hw with e | e
    · rw [e]; exact h
    · exact e
  exact ⟨hm, tb_g hm⟩
theorem aw_v {own : String} {idx : Nat} {C : String} {y : MethodName} {b : ByteArray} {n : Nat} {r : Option FieldType} (h1 : Cond.methodLink own idx y ∈ tb) (h2 : Cond.instanceMethod y ∈ tb) (h3 : Cond.selects C y y ∈ tb) (h4 : Cond.initialized C ∈ tb) (h5 : Cond.code y b n r ∈ tb) : GoodIn tb (wsV own idx C y (aw y b n r)) := by
  intro w hw
  unfold wsV at hw
  rcases List.mem_append.mp hw with q | q
  · have hm : w ∈ tb := by
      simp only [List.mem_cons, List.not_mem_nil, or_false] at q
      rcases q with rfl | rfl | rfl | rfl <;> assumption
    exact ⟨hm, tb_g hm⟩
  · exact aw_in h5 w q
theorem aw_s {own : String} {idx : Nat} {y : MethodName} {b : ByteArray} {n : Nat} {r : Option FieldType} (h1 : Cond.methodLink own idx y ∈ tb) (h2 : Cond.static y ∈ tb) (h4 : Cond.initialized own ∈ tb) (h5 : Cond.code y b n r ∈ tb) : GoodIn tb (wsS own idx y (aw y b n r)) := by
  intro w hw
  unfold wsS at hw
  rcases List.mem_append.mp hw with q | q
  · have hm : w ∈ tb := by
      simp only [List.mem_cons, List.not_mem_nil, or_false] at q
      rcases q with rfl | rfl | rfl <;> assumption
    exact ⟨hm, tb_g hm⟩
  · exact aw_in h5 w q
/-- class numbers, slots, and the array classes: 0 byte, 1 int, 2 long, 3 boolean, 4 Kind -/
abbrev GG : Type := (Nat → ClassId) × (Nat → Nat → Nat) × (Nat → ClassId)
abbrev gT (g : GG) : List (ClassId × FieldType) := [(g.2.2 0, .byte), (g.2.2 1, .int), (g.2.2 2, .long), (g.2.2 3, .boolean), (g.2.2 4, .object "ExchangeHouse$Kind")]
abbrev gK (g : GG) (U : State) : Prop := va_K (g.1, g.2.1) vwCl (gT g) U
abbrev gP (g : GG) (w : va_W) (H : Heap) : Prop := va_P (g.1, g.2.1) vwCl w H
def Cx (p : Program) (s : State) (m : MethodId) (c : Code) (cc : ByteArray) (nL : Nat) (own : String) (args : Array Value) (g : GG) : Prop := CallFix p m c cc nL s args tb own ∧ gK g s
def Hx (g : GG) (w : va_W) (A : Nat → Prop) (H0 H : Heap) (locs : List Loc) : Prop := gP g w H ∧ va_D A w ∧ va_S A H0 H locs ∧ ∀ q : Nat, H0.size ≤ q → A q
def gPre (g : GG) (w : va_W) (sz : Nat) : State → Prop := fun U => U.heap.size = sz ∧ gP g w U.heap ∧ gK g U ∧ va_D (fun _ => True) w
def gB {σ : Type} (g : GG) (wd : σ → va_W) (A : Nat → Prop) : σ → State → Prop := fun u t => gP g (wd u) t.heap ∧ gK g t ∧ va_D A (wd u)
/-- a method that answers an int (or boolean, byte, char, short) -/
def KI {σ : Type} (l : Launch) (y : MethodName) (b : ByteArray) (n : Nat) (r : Option FieldType) (rm : Room) (g : GG) (w : va_W) (wd : σ → va_W) (av : List Value) (post : Int32 → σ → Prop) : Prop :=
  ∀ sz : Nat, Met l y (aw y b n r) rm (va_Pc av (gPre g w sz)) (va_Qi post (gB g wd (va_A w sz)) (va_A w sz)) rm.cells rm.slots (va_A w sz)
def KL {σ : Type} (l : Launch) (y : MethodName) (b : ByteArray) (n : Nat) (r : Option FieldType) (rm : Room) (g : GG) (w : va_W) (wd : σ → va_W) (av : List Value) (post : Int64 → σ → Prop) : Prop :=
  ∀ sz : Nat, Met l y (aw y b n r) rm (va_Pc av (gPre g w sz)) (va_Ql post (gB g wd (va_A w sz)) (va_A w sz)) rm.cells rm.slots (va_A w sz)
def KV {σ : Type} (l : Launch) (y : MethodName) (b : ByteArray) (n : Nat) (rm : Room) (g : GG) (w : va_W) (wd : σ → va_W) (av : List Value) (post : σ → Prop) : Prop :=
  ∀ sz : Nat, Met l y (aw y b n none) rm (va_Pc av (gPre g w sz)) (va_Qv post (gB g wd (va_A w sz)) (va_A w sz)) rm.cells rm.slots (va_A w sz)
/-- rooms by depth: each call takes at most 40 words of locals -/
abbrev rD (d k n : Nat) : Room := { frames := d, cells := k, slots := n, locals := 40 * d }
/-- a call by invokevirtual (invokestatic): its words, its number of arguments -/
abbrev nPar (y : MethodName) (k : Nat) : Prop := y.cls ≠ "java/lang/invoke/MethodHandle" ∧ y.cls ≠ "java/lang/invoke/VarHandle" ∧ (parseMethodDescriptor y.desc).map (fun d => d.parameters.length) = some k
def OkV (own : String) (idx : Nat) (y : MethodName) (b : ByteArray) (n : Nat) (r : Option FieldType) (k : Nat) : Prop := GoodIn tb (wsV own idx y.cls y (aw y b n r)) ∧ nPar y k
def OkS (own : String) (idx : Nat) (y : MethodName) (b : ByteArray) (n : Nat) (r : Option FieldType) (k : Nat) : Prop := GoodIn tb (wsS own idx y (aw y b n r)) ∧ nPar y k
section Rows
variable {σ : Type} {p : Program} {l : Launch} {e : Env} {R : Room} {s : State} {m : MethodId} {args : Array Value} {below : List Frame} {meth : Method} {c : Code} {H H0 : Heap} {locs : List Loc} {cells slots : Nat} {Q : State → Prop}
variable {cc : ByteArray} {nL : Nat} {own : String} {g : GG} {A : Nat → Prop} {pc : Nat} {ls : Array Slot} {rest st : List Value}
variable {y : MethodName} {b : ByteArray} {n : Nat} {r : Option FieldType} {rm : Room} {w : va_W} {wd : σ → va_W} {av : List Value}
theorem KI.of {post : Int32 → σ → Prop} (hy : plainName y.cls = true) (hn : (lg_sl av).length ≤ n)
    (kk : ∀ (p : Program) (e : Env) (s : State) (m : MethodId) (below : List Frame) (meth : Method) (c : Code) (A : Nat → Prop) (ls : Array Slot), Cx p s m c b n y.cls av.toArray g → meth.sig.returnType = r → meth.locks = false → meth.name = y.name → Hx g w A s.heap s.heap [] → lv_has ls n (lv_args 0 av) →
      W p l e rm s m av.toArray below meth c s.heap [] 0 0 (MQ below (va_Qi post (gB g wd A) A) av.toArray s rm.cells rm.slots A) (F0 m 0 ls [])) : KI l y b n r rm g w wd av post := by
  intro sz
  refine Met.ofW (cc := b) (maxL := n) (ret := r) hy rfl ?_
  intro p e s m args below meth c s₁ B hml hv
  obtain ⟨rfl, hsz, hP, hK, hD0⟩ := hv
  have hts := atoms_spec (ws := aw y b n r) B.pre
  have hown : s.vm.findClass y.cls = some m.cls := findClass_of_methodNamed B.named
  subst hsz
  have hl := lv_entry av (n := n) hn
  rw [lg_entry_eq]
  exact kk p e s m below meth c _ _ ⟨⟨B.exec, B.bytes, hml, hown, fun w h => hts w (List.mem_cons_of_mem _ h)⟩, hK⟩ B.returns B.notSynchronized (name_of_methodNamed B.named B.method).1 ⟨hP, hD0.self, va_S.rf, fun q h => Or.inr h⟩ hl
theorem KL.of {post : Int64 → σ → Prop} (hy : plainName y.cls = true) (hn : (lg_sl av).length ≤ n)
    (kk : ∀ (p : Program) (e : Env) (s : State) (m : MethodId) (below : List Frame) (meth : Method) (c : Code) (A : Nat → Prop) (ls : Array Slot), Cx p s m c b n y.cls av.toArray g → meth.sig.returnType = r → meth.locks = false → meth.name = y.name → Hx g w A s.heap s.heap [] → lv_has ls n (lv_args 0 av) →
      W p l e rm s m av.toArray below meth c s.heap [] 0 0 (MQ below (va_Ql post (gB g wd A) A) av.toArray s rm.cells rm.slots A) (F0 m 0 ls [])) : KL l y b n r rm g w wd av post := by
  intro sz
  refine Met.ofW (cc := b) (maxL := n) (ret := r) hy rfl ?_
  intro p e s m args below meth c s₁ B hml hv
  obtain ⟨rfl, hsz, hP, hK, hD0⟩ := hv
  have hts := atoms_spec (ws := aw y b n r) B.pre
  have hown : s.vm.findClass y.cls = some m.cls := findClass_of_methodNamed B.named
  subst hsz
  have hl := lv_entry av (n := n) hn
  rw [lg_entry_eq]
  exact kk p e s m below meth c _ _ ⟨⟨B.exec, B.bytes, hml, hown, fun w h => hts w (List.mem_cons_of_mem _ h)⟩, hK⟩ B.returns B.notSynchronized (name_of_methodNamed B.named B.method).1 ⟨hP, hD0.self, va_S.rf, fun q h => Or.inr h⟩ hl
theorem KV.of {post : σ → Prop} (hy : plainName y.cls = true) (hn : (lg_sl av).length ≤ n)
    (kk : ∀ (p : Program) (e : Env) (s : State) (m : MethodId) (below : List Frame) (meth : Method) (c : Code) (A : Nat → Prop) (ls : Array Slot), Cx p s m c b n y.cls av.toArray g → meth.sig.returnType = none → meth.locks = false → meth.name = y.name → Hx g w A s.heap s.heap [] → lv_has ls n (lv_args 0 av) →
      W p l e rm s m av.toArray below meth c s.heap [] 0 0 (MQ below (va_Qv post (gB g wd A) A) av.toArray s rm.cells rm.slots A) (F0 m 0 ls [])) : KV l y b n rm g w wd av post := by
  intro sz
  refine Met.ofW (cc := b) (maxL := n) (ret := none) hy rfl ?_
  intro p e s m args below meth c s₁ B hml hv
  obtain ⟨rfl, hsz, hP, hK, hD0⟩ := hv
  have hts := atoms_spec (ws := aw y b n none) B.pre
  have hown : s.vm.findClass y.cls = some m.cls := findClass_of_methodNamed B.named
  subst hsz
  have hl := lv_entry av (n := n) hn
  rw [lg_entry_eq]
  exact kk p e s m below meth c _ _ ⟨⟨B.exec, B.bytes, hml, hown, fun w h => hts w (List.mem_cons_of_mem _ h)⟩, hK⟩ B.returns B.notSynchronized (name_of_methodNamed B.named B.method).1 ⟨hP, hD0.self, va_S.rf, fun q h => Or.inr h⟩ hl
/-- ireturn -/
theorem KI.ret {post : Int32 → σ → Prop} {ty : FieldType} {v : Int32} (C : Cx p s m c cc nL own args g) (hr : meth.sig.returnType = some ty) (hlk : meth.locks = false) (u : σ) (h : Hx g (wd u) A s.heap H locs) (hn : narrow ty (.int v) = .int v) (hp : post v u) (hc : cells ≤ R.cells) (hs : slots ≤ R.slots) (hdg : decode cc pc = .ok (.ireturn, 1)) :
    W p l e R s m args below meth c H locs cells slots (MQ below (va_Qi post (gB g wd A) A) args s R.cells R.slots A) (F0 m pc ls [.int v]) := by
  refine W.widen hc hs ?_
  exact W.zret C.1.1 C.1.2.1 hr hn (fun t ht hW => ⟨⟨v, u, rfl, hp, by rw [ht]; exact h.1, va_K.moved hW.alike C.2, h.2.1⟩, h.2.2.1.F ht⟩) h.2.2.1.2.2 hdg hlk
/-- return -/
theorem KV.ret {post : σ → Prop} (C : Cx p s m c cc nL own args g) (hr : meth.sig.returnType = none) (hlk : meth.locks = false) (u : σ) (h : Hx g (wd u) A s.heap H locs) (hp : post u) (hc : cells ≤ R.cells) (hs : slots ≤ R.slots) (hdg : decode cc pc = .ok (.return_, 1)) :
    W p l e R s m args below meth c H locs cells slots (MQ below (va_Qv post (gB g wd A) A) args s R.cells R.slots A) (F0 m pc ls []) := by
  refine W.widen hc hs ?_
  exact W.vret C.1.1 C.1.2.1 hr (fun t ht hW => ⟨⟨u, rfl, hp, by rw [ht]; exact h.1, va_K.moved hW.alike C.2, h.2.1⟩, h.2.2.1.F ht⟩) h.2.2.1.2.2 hdg hlk
theorem Hx.free (h : Hx g w A H0 H locs) : ∀ q, va_A w H.size q → A q := by
  intro q hq
  rcases hq with ⟨k, e, hk⟩ | hq
  · exact h.2.1.2 k (q, e) hk
  · exact h.2.2.2 q (Nat.le_trans h.2.2.1.1 hq)
theorem gPre.blind {w : va_W} {sz : Nat} : FrameBlind (va_Pc av (gPre g w sz)) := by
  intro a U g' mk q
  obtain ⟨q0, q1, qP, qK, qD⟩ := q
  exact ⟨q0, q1, qP, va_K.moved (u := U) (U := U.calling g' mk a) (Vm.Alike.refl U.vm) qK, qD⟩
theorem gPre.at (C : Cx p s m c cc nL own args g) (h : Hx g w A H0 H locs) : ∀ U : State, U.heap = H → s.WarmedH U.vm → va_Pc av (gPre g w H.size) av.toArray U := fun U hU hW => ⟨rfl, by rw [hU], by rw [hU]; exact h.1, va_K.moved hW.alike C.2, h.2.1.weaken (fun _ _ _ _ => trivial)⟩
/-- invokevirtual of a method with an int answer, over the whole world -/
theorem KI.callV {post : Int32 → σ → Prop} {o q0 ci N idx : Nat} {T : u_T} {fs As : List Value} (C : Cx p s m c cc nL own args g) (h : Hx g w A H0 H locs) (hM : KI l y b n r rm g w wd (.ref o :: As) post) (hG : OkV own idx y b n r As.length) (hR : rm.frames + 1 ≤ R.frames ∧ 8 + (n + 11) + rm.locals ≤ R.locals)
    (hrec : w[q0]? = some (o, .inr (ci, fs))) (hcl : vwCl[ci]? = some (y.cls, T, N)) (hls : ls.size = nL) (hst : st = As.reverse ++ .ref o :: rest) (hrm : (rest.map fun v => v.category).sum ≤ 8) (hdg : decode cc pc = .ok (.invokevirtual idx, 3)) (hf : cells + rm.cells ≤ R.cells ∧ slots + rm.slots ≤ R.slots)
    (kk : ∀ (v : Int32) (u : σ) (H1 : Heap) (locs1 : List Loc), post v u → Hx g (wd u) A H0 H1 locs1 → W p l e R s m args below meth c H1 locs1 (cells + rm.cells) (slots + rm.slots) Q (F0 m (pc + 3) ls (.int v :: rest))) :
    W p l e R s m args below meth c H locs cells slots Q (F0 m pc ls st) := by
  have hFc := h.free
  refine va_calli (va_runV (As := As) (rest := rest) C.1 (hM H.size) (cwV As.length C.1.2.2.2.2 hG.1 rfl rfl rfl ⟨rfl, hG.2⟩ hR) ⟨gPre.blind, va_recv C.2 h.1 hcl hrec, gPre.at C h⟩ rfl rfl hls hst (lv_room hrm) hdg hf) h.2.2.1 (fun q _ hq => hFc q hq) hFc (fun v u t H1 locs1 ht hvm hp hB hz hk hS => ?_)
  exact kk v u H1 locs1 hp ⟨by rw [← ht]; exact hB.1, hB.2.2.weaken (fun _ _ _ q => hFc _ q), hS, h.2.2.2⟩
theorem KV.callV {post : σ → Prop} {o q0 ci N idx : Nat} {T : u_T} {fs As : List Value} (C : Cx p s m c cc nL own args g) (h : Hx g w A H0 H locs) (hM : KV l y b n rm g w wd (.ref o :: As) post) (hG : OkV own idx y b n none As.length) (hR : rm.frames + 1 ≤ R.frames ∧ 8 + (n + 11) + rm.locals ≤ R.locals)
    (hrec : w[q0]? = some (o, .inr (ci, fs))) (hcl : vwCl[ci]? = some (y.cls, T, N)) (hls : ls.size = nL) (hst : st = As.reverse ++ .ref o :: rest) (hrm : (rest.map fun v => v.category).sum ≤ 8) (hdg : decode cc pc = .ok (.invokevirtual idx, 3)) (hf : cells + rm.cells ≤ R.cells ∧ slots + rm.slots ≤ R.slots)
    (kk : ∀ (u : σ) (H1 : Heap) (locs1 : List Loc), post u → Hx g (wd u) A H0 H1 locs1 → W p l e R s m args below meth c H1 locs1 (cells + rm.cells) (slots + rm.slots) Q (F0 m (pc + 3) ls rest)) :
    W p l e R s m args below meth c H locs cells slots Q (F0 m pc ls st) := by
  have hFc := h.free
  refine va_callv (va_runV (As := As) (rest := rest) C.1 (hM H.size) (cwV As.length C.1.2.2.2.2 hG.1 rfl rfl rfl ⟨rfl, hG.2⟩ hR) ⟨gPre.blind, va_recv C.2 h.1 hcl hrec, gPre.at C h⟩ rfl rfl hls hst (lv_room hrm) hdg hf) h.2.2.1 (fun q _ hq => hFc q hq) hFc (fun u t H1 locs1 ht hvm hp hB hz hk hS => ?_)
  exact kk u H1 locs1 hp ⟨by rw [← ht]; exact hB.1, hB.2.2.weaken (fun _ _ _ q => hFc _ q), hS, h.2.2.2⟩
end Rows
end
section
/-! the reference as a world: one object of 190 fields, 122 arrays -/
def mKind : List Nat := [0, 0, 0, 5, 5, 5, 5, 2, 1, 1, 2, 5, 5, 5, 5, 5, 5, 5, 5, 5, 2, 2, 2, 1, 1, 1, 2, 2, 1, 1, 1, 1, 1, 1, 3, 1, 1, 1, 1, 1, 1, 1, 1, 1, 1, 2, 2, 2, 2, 1, 1, 1, 1, 1, 1, 1, 1, 1, 5, 2, 1, 5, 5, 5, 1, 1, 1, 1, 1, 1, 1, 1, 1, 1, 1, 5, 5, 1, 1, 1, 1, 1, 1, 1, 1, 1, 1, 1, 1, 3, 5, 1, 1, 1, 1, 1, 1, 1, 1, 1, 3, 3, 5, 5, 5, 1, 1, 5, 5, 5, 1, 1, 5, 1, 1, 3, 5, 3, 5, 5, 5, 1, 1, 1, 3, 1, 5, 5, 5, 5, 5, 5, 5, 5, 5, 5, 5, 5, 5, 5, 1, 1, 5, 5, 5, 5, 1, 1, 5, 5, 1, 5, 5, 5, 1, 1, 1, 1, 1, 1, 1, 1, 1, 5, 5, 5, 5, 5, 5, 5, 5, 5, 5, 2, 1, 1, 1, 1, 1, 1, 1, 1, 1, 1, 1, 3, 5, 5, 5, 5]
def mLens : List Nat := [5000, 5000, 5000, 0, 0, 0, 0, 48, 1202, 1202, 1202, 0, 0, 0, 0, 0, 0, 0, 0, 0, 20, 10, 6, 20, 20, 60, 10, 10, 10, 10, 10, 10, 10, 10, 10, 6, 6, 6, 6, 6, 6, 6, 6, 6, 6, 48, 18, 72, 60, 48, 48, 48, 48, 18, 72, 60, 60, 60, 0, 36, 36, 0, 0, 0, 1300, 1300, 1300, 1300, 1300, 1300, 1300, 1300, 1300, 1300, 3900, 0, 0, 1300, 1300, 1300, 1300, 1300, 1300, 3900, 1300, 1300, 1300, 1300, 1300, 1300, 0, 1300, 1300, 1300, 1300, 14, 14, 14, 14, 14, 14, 14, 0, 0, 0, 3000, 3000, 0, 0, 0, 1240, 1240, 0, 1202, 1202, 1202, 0, 40, 0, 0, 0, 400, 400, 6, 1300, 1104, 0, 0, 0, 0, 0, 0, 0, 0, 0, 0, 0, 0, 0, 0, 2000, 1200, 0, 0, 0, 0, 3, 1202, 0, 0, 3, 0, 0, 0, 220800, 1104, 200, 200, 200, 200, 200, 200, 200, 0, 0, 0, 0, 0, 0, 0, 0, 0, 0, 8, 8, 40, 40, 40, 40, 120, 120, 6, 3, 3, 6, 6, 0, 0, 0, 0]
def mIx : List Nat := [9, 13, 16, 402, 409, 816, 819, 19, 23, 27, 30, 418, 450, 444, 447, 480, 457, 489, 492, 495, 33, 36, 39, 42, 45, 48, 51, 54, 57, 60, 63, 66, 69, 72, 75, 79, 82, 85, 88, 91, 94, 97, 100, 103, 106, 109, 112, 115, 118, 121, 124, 127, 130, 133, 136, 139, 142, 145, 498, 148, 151, 574, 510, 513, 154, 157, 160, 163, 166, 169, 172, 175, 178, 181, 184, 504, 519, 187, 190, 193, 196, 199, 202, 205, 208, 211, 214, 217, 220, 223, 516, 226, 229, 232, 235, 238, 241, 244, 247, 250, 253, 256, 655, 658, 507, 259, 262, 722, 725, 719, 265, 268, 752, 271, 274, 277, 746, 280, 755, 283, 831, 287, 290, 293, 296, 299, 822, 843, 877, 895, 1008, 907, 858, 913, 916, 919, 1011, 883, 855, 910, 302, 305, 849, 846, 874, 880, 308, 311, 925, 928, 314, 990, 996, 993, 318, 321, 324, 327, 330, 333, 336, 339, 342, 825, 1017, 1060, 1063, 1048, 1051, 1014, 1099, 1102, 1105, 345, 348, 351, 354, 357, 360, 363, 366, 369, 372, 375, 378, 381, 1108, 1148, 1151, 1132]
def mWi : List Nat := [2162, 2163, 2164, 2165, 2166, 2167, 2168, 2169, 2170, 2171, 2172, 2173, 2174, 2175, 2176, 2177, 2178, 2179, 2180, 2181, 2182, 2183, 2184, 2185, 2186, 2187, 2188, 2189, 2190, 2191, 2192, 2193, 2194, 2195, 2196, 2197, 2198, 2199, 2200, 2201, 2202, 2203, 2204, 2205, 2206, 2207, 2208, 2209, 2210, 2211, 2212, 2213, 2214, 2215, 2216, 2217, 2218, 2219, 2220, 2221, 2222, 2223, 2224, 2225, 2226, 2227, 2228, 2229, 2230, 2231, 2232, 2233, 2234, 2235, 2236, 2237, 2238, 2239, 2240, 2241, 2242, 2243, 2244, 2245, 2246, 2247, 2248, 2249, 2250, 2251, 2252, 2253, 2254, 2255, 2256, 2257, 2258, 2259, 2260, 2261, 2262, 2263, 2264, 2265, 2266, 2267, 2268, 2269, 2270, 2271, 2272, 2273, 2274, 2275, 2276, 2277, 2278, 2279, 2280, 2281, 2282, 2283, 2284, 2285, 2286, 2287, 2288, 2289, 2290, 2291, 2292, 2293, 2294, 2295, 2296, 2297, 2298, 2299, 2300, 2301, 2302, 2303, 2304, 2305, 2306, 2307, 2308, 2309, 2310, 2311, 2312, 2313, 2314, 2315, 2316, 2317, 2318, 2319, 2320, 2321, 2322, 2323, 2324, 2325, 2326, 2327, 2328, 2329, 2330, 2331, 2332, 2333, 2334, 2335, 2336, 2337, 2338, 2339, 2340, 2341, 2342, 2343, 2344, 2345, 2346, 2347, 2348, 2349, 2350, 2351]
def mLi : List Nat := [2352, 2354, 2356, 2358, 2360, 2362, 2364, 2366, 2368, 2370, 2372, 2374, 2376, 2378, 2380, 2382, 2384, 2386, 2388, 2390, 2392, 2394, 2396, 2398, 2400, 2402, 2404, 2406, 2408, 2410, 2412, 2414, 2416, 2418, 2420, 2422, 2424, 2426, 2428, 2430, 2432, 2434, 2436, 2438, 2440, 2442, 2444, 2446, 2448, 2450, 2452, 2454, 2456, 2458, 2460, 2462, 2464, 2466, 2468, 2470, 2472, 2474, 2476, 2478, 2480, 2482, 2484, 2486, 2488, 2490, 2492, 2494, 2496, 2498, 2500, 2502, 2504, 2506, 2508, 2510, 2512, 2514, 2516, 2518, 2520, 2522, 2524, 2526, 2528, 2530, 2532, 2534, 2536, 2538, 2540, 2542, 2544, 2546, 2548, 2550, 2552, 2554, 2556, 2558, 2560, 2562, 2564, 2566, 2568, 2570, 2572, 2574, 2576, 2578, 2580, 2582, 2584, 2586, 2588, 2590, 2592, 2594, 2596, 2598, 2600, 2602, 2604, 2606, 2608, 2610, 2612, 2614, 2616, 2618, 2620, 2622, 2624, 2626, 2628, 2630, 2632, 2634, 2636, 2638, 2640, 2642, 2644, 2646, 2648, 2650, 2652, 2654, 2656, 2658, 2660, 2662, 2664, 2666, 2668, 2670, 2672, 2674, 2676, 2678, 2680, 2682, 2684, 2686, 2688, 2690, 2692, 2694, 2696, 2698, 2700, 2702, 2704, 2706, 2708, 2710, 2712, 2714, 2716, 2718, 2720, 2722, 2724, 2726, 2728, 2730]
def mPs : List Nat := [0, 1, 2, 0, 0, 0, 0, 3, 4, 5, 6, 0, 0, 0, 0, 0, 0, 0, 0, 0, 7, 8, 9, 10, 11, 12, 13, 14, 15, 16, 17, 18, 19, 20, 21, 22, 23, 24, 25, 26, 27, 28, 29, 30, 31, 32, 33, 34, 35, 36, 37, 38, 39, 40, 41, 42, 43, 44, 0, 45, 46, 0, 0, 0, 47, 48, 49, 50, 51, 52, 53, 54, 55, 56, 57, 0, 0, 58, 59, 60, 61, 62, 63, 64, 65, 66, 67, 68, 69, 70, 0, 71, 72, 73, 74, 75, 76, 77, 78, 79, 80, 81, 0, 0, 0, 82, 83, 0, 0, 0, 84, 85, 0, 86, 87, 88, 0, 89, 0, 0, 0, 90, 91, 92, 93, 94, 0, 0, 0, 0, 0, 0, 0, 0, 0, 0, 0, 0, 0, 0, 95, 96, 0, 0, 0, 0, 97, 98, 0, 0, 99, 0, 0, 0, 100, 101, 102, 103, 104, 105, 106, 107, 108, 0, 0, 0, 0, 0, 0, 0, 0, 0, 0, 109, 110, 111, 112, 113, 114, 115, 116, 117, 118, 119, 120, 121, 0, 0, 0, 0]
def mArr : List Nat := [0, 1, 2, 7, 8, 9, 10, 20, 21, 22, 23, 24, 25, 26, 27, 28, 29, 30, 31, 32, 33, 34, 35, 36, 37, 38, 39, 40, 41, 42, 43, 44, 45, 46, 47, 48, 49, 50, 51, 52, 53, 54, 55, 56, 57, 59, 60, 64, 65, 66, 67, 68, 69, 70, 71, 72, 73, 74, 77, 78, 79, 80, 81, 82, 83, 84, 85, 86, 87, 88, 89, 91, 92, 93, 94, 95, 96, 97, 98, 99, 100, 101, 105, 106, 110, 111, 113, 114, 115, 117, 121, 122, 123, 124, 125, 140, 141, 146, 147, 150, 154, 155, 156, 157, 158, 159, 160, 161, 162, 173, 174, 175, 176, 177, 178, 179, 180, 181, 182, 183, 184, 185]
abbrev m_tape : Nat := 0
abbrev m_text : Nat := 1
abbrev m_good : Nat := 2
abbrev m_taped : Nat := 3
abbrev m_length : Nat := 4
abbrev m_goodLength : Nat := 5
abbrev m_there : Nat := 6
abbrev m_words : Nat := 7
abbrev m_tk : Nat := 8
abbrev m_tp : Nat := 9
abbrev m_tv : Nat := 10
abbrev m_many : Nat := 11
abbrev m_at : Nat := 12
abbrev m_fault : Nat := 13
abbrev m_faultAt : Nat := 14
abbrev m_open : Nat := 15
abbrev m_judges : Nat := 16
abbrev m_sigs : Nat := 17
abbrev m_routes : Nat := 18
abbrev m_types : Nat := 19
abbrev m_sName : Nat := 20
abbrev m_rName : Nat := 21
abbrev m_tName : Nat := 22
abbrev m_sAt : Nat := 23
abbrev m_sSorts : Nat := 24
abbrev m_sSort : Nat := 25
abbrev m_rFrom : Nat := 26
abbrev m_rTo : Nat := 27
abbrev m_rSource : Nat := 28
abbrev m_rGoal : Nat := 29
abbrev m_rLow : Nat := 30
abbrev m_rHigh : Nat := 31
abbrev m_rCarries : Nat := 32
abbrev m_rNames : Nat := 33
abbrev m_rTwo : Nat := 34
abbrev m_tAt : Nat := 35
abbrev m_tLow : Nat := 36
abbrev m_tHigh : Nat := 37
abbrev m_tPars : Nat := 38
abbrev m_tVars : Nat := 39
abbrev m_tCells : Nat := 40
abbrev m_tTimers : Nat := 41
abbrev m_tStates : Nat := 42
abbrev m_tLabels : Nat := 43
abbrev m_tStart : Nat := 44
abbrev m_vName : Nat := 45
abbrev m_mName : Nat := 46
abbrev m_stName : Nat := 47
abbrev m_lName : Nat := 48
abbrev m_vAt : Nat := 49
abbrev m_vSort : Nat := 50
abbrev m_vSize : Nat := 51
abbrev m_vCell : Nat := 52
abbrev m_mAt : Nat := 53
abbrev m_stAt : Nat := 54
abbrev m_lAt : Nat := 55
abbrev m_lGoal : Nat := 56
abbrev m_lTrans : Nat := 57
abbrev m_globals : Nat := 58
abbrev m_gName : Nat := 59
abbrev m_gAt : Nat := 60
abbrev m_type : Nat := 61
abbrev m_stims : Nat := 62
abbrev m_ins : Nat := 63
abbrev m_stType : Nat := 64
abbrev m_stKind : Nat := 65
abbrev m_stMask : Nat := 66
abbrev m_stPrio : Nat := 67
abbrev m_stIf : Nat := 68
abbrev m_stCode : Nat := 69
abbrev m_stFrom : Nat := 70
abbrev m_stTo : Nat := 71
abbrev m_inSignal : Nat := 72
abbrev m_inCount : Nat := 73
abbrev m_inVar : Nat := 74
abbrev m_codes : Nat := 75
abbrev m_transes : Nat := 76
abbrev m_op : Nat := 77
abbrev m_opAt : Nat := 78
abbrev m_opA : Nat := 79
abbrev m_opB : Nat := 80
abbrev m_opC : Nat := 81
abbrev m_opD : Nat := 82
abbrev m_opValue : Nat := 83
abbrev m_opValues : Nat := 84
abbrev m_trType : Nat := 85
abbrev m_trMask : Nat := 86
abbrev m_trNext : Nat := 87
abbrev m_trJoin : Nat := 88
abbrev m_trStart : Nat := 89
abbrev m_ranges : Nat := 90
abbrev m_rgLow : Nat := 91
abbrev m_rgHigh : Nat := 92
abbrev m_rgGoal : Nat := 93
abbrev m_rgNext : Nat := 94
abbrev m_dCode : Nat := 95
abbrev m_dMany : Nat := 96
abbrev m_dLatest : Nat := 97
abbrev m_dSort : Nat := 98
abbrev m_dJump : Nat := 99
abbrev m_dElse : Nat := 100
abbrev m_dEnds : Nat := 101
abbrev m_deep : Nat := 102
abbrev m_ends : Nat := 103
abbrev m_forms : Nat := 104
abbrev m_form : Nat := 105
abbrev m_formOf : Nat := 106
abbrev m_eSort : Nat := 107
abbrev m_eAt : Nat := 108
abbrev m_eBad : Nat := 109
abbrev m_oSign : Nat := 110
abbrev m_oToken : Nat := 111
abbrev m_signs : Nat := 112
abbrev m_wSort : Nat := 113
abbrev m_wAt : Nat := 114
abbrev m_wBad : Nat := 115
abbrev m_waits : Nat := 116
abbrev m_compares : Nat := 117
abbrev m_brackets : Nat := 118
abbrev m_place : Nat := 119
abbrev m_warnings : Nat := 120
abbrev m_warns : Nat := 121
abbrev m_warnsAt : Nat := 122
abbrev m_comeTo : Nat := 123
abbrev m_tells : Nat := 124
abbrev m_s : Nat := 125
abbrev m_runs : Nat := 126
abbrev m_quiet : Nat := 127
abbrev m_now : Nat := 128
abbrev m_seed : Nat := 129
abbrev m_latest : Nat := 130
abbrev m_madeInAll : Nat := 131
abbrev m_lostInAll : Nat := 132
abbrev m_errorsInAll : Nat := 133
abbrev m_lastError : Nat := 134
abbrev m_lastErrorAt : Nat := 135
abbrev m_steps : Nat := 136
abbrev m_outs : Nat := 137
abbrev m_lostNow : Nat := 138
abbrev m_errorsNow : Nat := 139
abbrev m_trace : Nat := 140
abbrev m_outRow : Nat := 141
abbrev m_traced : Nat := 142
abbrev m_tracedFirst : Nat := 143
abbrev m_outNext : Nat := 144
abbrev m_outKept : Nat := 145
abbrev m_given : Nat := 146
abbrev m_stack : Nat := 147
abbrev m_top : Nat := 148
abbrev m_formError : Nat := 149
abbrev m_worked : Nat := 150
abbrev m_stepStim : Nat := 151
abbrev m_stepItem : Nat := 152
abbrev m_stepIn : Nat := 153
abbrev m_all : Nat := 154
abbrev m_kept : Nat := 155
abbrev m_fFrom : Nat := 156
abbrev m_fMove : Nat := 157
abbrev m_fDeep : Nat := 158
abbrev m_fMoves : Nat := 159
abbrev m_fLost : Nat := 160
abbrev m_fErrors : Nat := 161
abbrev m_fSum : Nat := 162
abbrev m_found : Nat := 163
abbrev m_looked : Nat := 164
abbrev m_limit : Nat := 165
abbrev m_moves : Nat := 166
abbrev m_lostMoves : Nat := 167
abbrev m_errorMoves : Nat := 168
abbrev m_wasCut : Nat := 169
abbrev m_insts : Nat := 170
abbrev m_lines : Nat := 171
abbrev m_blocks : Nat := 172
abbrev m_iName : Nat := 173
abbrev m_iNumber : Nat := 174
abbrev m_liLeft : Nat := 175
abbrev m_liRight : Nat := 176
abbrev m_liSignal : Nat := 177
abbrev m_liDeep : Nat := 178
abbrev m_liBlock : Nat := 179
abbrev m_liRow : Nat := 180
abbrev m_bMany : Nat := 181
abbrev m_bOpen : Nat := 182
abbrev m_bRow : Nat := 183
abbrev m_bChoice : Nat := 184
abbrev m_bOpt : Nat := 185
abbrev m_within : Nat := 186
abbrev m_linesTold : Nat := 187
abbrev m_choicesKept : Nat := 188
abbrev m_eventsAt : Nat := 189
def mk (k : Nat) : Nat := mKind.getD k 5
def mln (k : Nat) : Nat := mLens.getD k 0
def mix (k : Nat) : Nat := mIx.getD k 0
def mps (k : Nat) : Nat := mPs.getD k 0
set_option maxRecDepth 100000 in
theorem mLink : ∀ k, k < 190 → lw_tbl[mWi.getD k 0]? = some (Cond.fieldLink RM (mix k) RM (TM k).2.1 (TM k).2.2.1) := by decide +kernel
set_option maxRecDepth 100000 in
theorem mLay : ∀ k, k < 190 → lw_tbl[mLi.getD k 0]? = some (u_lay RM TM k) ∧ goodWord (u_lay RM TM k) = true := by decide +kernel
theorem mOwn : ∀ k, k < 190 → (TM k).1 = RM := by decide +kernel
theorem mLinkIn (k : Nat) (hk : k < 190) : Cond.fieldLink RM (mix k) RM (TM k).2.1 (TM k).2.2.1 ∈ tb := tm _ (mLink k hk) rfl
theorem mLays : ∀ w ∈ u_ws RM TM 190, w ∈ tb := by
  intro w hw
  unfold u_ws at hw
  obtain ⟨k, hk, rfl⟩ := List.mem_map.mp hw
  have hk := List.mem_range.mp hk
  exact tm _ (mLay k hk).1 (mLay k hk).2
theorem mArr_at : ∀ k, k < 190 → mk k ≠ 5 → mArr[mps k]? = some k := by decide +kernel
theorem mArr_ps : ∀ i, i < 122 → mps (mArr.getD i 0) = i := by decide +kernel
theorem mArr_len : mArr.length = 122 := by decide +kernel
end
section
/-- what the reference holds: its numbers, its arrays of ints (bytes, booleans), its arrays of longs, by field -/
abbrev MS : Type := (Nat → Int32) × (Nat → Nat → Int32) × (Nat → Nat → Int64)
def mVal (ad : Nat → Nat) (M : MS) (k : Nat) : Value := if mk k = 5 then .int (M.1 k) else .ref (ad k)
def mObj (ad : Nat → Nat) (M : MS) : List Value := (List.range 190).map (mVal ad M)
def mCell (g : GG) (M : MS) (k : Nat) : va_E := if mk k = 2 then .inl (g.2.2 2, mln k, .inr (.inl (M.2.2 k))) else .inl (g.2.2 (mk k), mln k, .inl (M.2.1 k))
def mW (g : GG) (o : Nat) (ad : Nat → Nat) (M : MS) : va_W := (o, .inr (0, mObj ad M)) :: mArr.map (fun k => (ad k, mCell g M k))
def mput (M : MS) (k : Nat) (v : Int32) : MS := (va_up M.1 k v, M.2)
def mseti (M : MS) (k i : Nat) (x : Int32) : MS := (M.1, va_up M.2.1 k (upd (M.2.1 k) i x), M.2.2)
def msetj (M : MS) (k i : Nat) (x : Int64) : MS := (M.1, M.2.1, va_up M.2.2 k (vp_updL (M.2.2 k) i x))
theorem mObj_get {ad : Nat → Nat} {M : MS} {k : Nat} (hk : k < 190) : (mObj ad M)[k]? = some (mVal ad M k) := by simp [mObj, hk]
theorem mObj_set {ad : Nat → Nat} {M : MS} {k : Nat} (hs : mk k = 5) (v : Int32) : (mObj ad M).set k (.int v) = mObj ad (va_up M.1 k v, M.2) := by
  apply List.ext_getElem?
  intro i
  by_cases hi : i < 190
  · by_cases e : i = k
    · subst e
      rw [List.getElem?_set_self (by simp [mObj]; exact hi), mObj_get hi]
      simp [mVal, hs, va_up]
    · rw [List.getElem?_set_ne (Ne.symm e), mObj_get hi, mObj_get hi]
      simp [mVal, va_up, e]
  · rw [List.getElem?_eq_none (by simp [mObj]; omega), List.getElem?_eq_none (by simp [mObj]; omega)]
theorem mW_at {g : GG} {o : Nat} {ad : Nat → Nat} {M : MS} {k : Nat} (hk : k < 190) (h5 : mk k ≠ 5) : (mW g o ad M)[mps k + 1]? = some (ad k, mCell g M k) := by
  simp [mW, mArr_at k hk h5]
theorem mW_set {g : GG} {o : Nat} {ad : Nat → Nat} {M M' : MS} {k : Nat} (hk : k < 190) (h5 : mk k ≠ 5) {e : va_E} (h1 : M'.1 = M.1) (he : mCell g M' k = e) (hne : ∀ j, j ≠ k → mCell g M' j = mCell g M j) : (mW g o ad M).set (mps k + 1) (ad k, e) = mW g o ad M' := by
  have ho : mObj ad M' = mObj ad M := by unfold mObj mVal; rw [h1]
  unfold mW
  rw [ho, List.set_cons_succ]
  congr 1
  apply List.ext_getElem?
  intro i
  have ha := mArr_at k hk h5
  have hl : mps k < mArr.length := (List.getElem?_eq_some_iff.mp ha).1
  by_cases hi : i = mps k
  · subst hi
    rw [List.getElem?_set_self (by rw [List.length_map]; exact hl), List.getElem?_map, ha]
    simp [he]
  · rw [List.getElem?_set_ne (Ne.symm hi), List.getElem?_map, List.getElem?_map]
    by_cases hlt : i < mArr.length
    · have hj : mArr[i]? = some (mArr.getD i 0) := by rw [List.getD_eq_getElem?_getD, List.getElem?_eq_getElem hlt]; rfl
      have hp := mArr_ps i (by rw [← mArr_len]; exact hlt)
      rw [hj]
      have : mArr.getD i 0 ≠ k := fun z => hi (by rw [← hp, z])
      simp only [Option.map_some, hne _ this]
    · rw [List.getElem?_eq_none (by omega)]
      rfl
section MRows
variable {p : Program} {l : Launch} {e : Env} {R : Room} {s : State} {m : MethodId} {args : Array Value} {below : List Frame} {meth : Method} {c : Code} {H H0 : Heap} {locs : List Loc} {cells slots : Nat} {Q : State → Prop}
variable {cc : ByteArray} {nL : Nat} {g : GG} {A : Nat → Prop} {pc : Nat} {ls : Array Slot} {rest : List Value} {o : Nat} {ad : Nat → Nat} {M : MS}
/-- getfield of a number -/
theorem mgi (C : Cx p s m c cc nL RM args g) (h : Hx g (mW g o ad M) A H0 H locs) (k : Nat) (hk : k < 190) (hs : mk k = 5) {v : Int32} (hv : M.1 k = v) {ix : Nat} (hix : ix = mix k) (hdg : decode cc pc = .ok (.getfield ix, 3)) (kk : W p l e R s m args below meth c H locs cells slots Q (F0 m (pc + 3) ls (.int v :: rest))) : W p l e R s m args below meth c H locs cells slots Q (F0 m pc ls (.ref o :: rest)) := by
  subst hix
  subst hv
  exact va_get (D := (g.1, g.2.1)) (ci := 0) (v := .int (M.1 k)) (C := RM) (T := TM) (N := 190) (ref := RM) C.1.1 C.1.2.1 C.1.2.2.2.2 mLays C.1.2.2.2.1 C.2 h.1 0 rfl rfl k hk (C.1.2.2.2.2 _ (mLinkIn k hk)) (fun x hx => by rw [mOwn k hk] at hx; exact hx) (by rw [mObj_get hk]; simp [mVal, hs]) hdg kk
/-- getfield of an array -/
theorem mga (C : Cx p s m c cc nL RM args g) (h : Hx g (mW g o ad M) A H0 H locs) (k : Nat) (hk : k < 190) (hs : mk k ≠ 5) {ix : Nat} (hix : ix = mix k) (hdg : decode cc pc = .ok (.getfield ix, 3)) (kk : W p l e R s m args below meth c H locs cells slots Q (F0 m (pc + 3) ls (.ref (ad k) :: rest))) : W p l e R s m args below meth c H locs cells slots Q (F0 m pc ls (.ref o :: rest)) := by
  subst hix
  exact va_get (D := (g.1, g.2.1)) (ci := 0) (v := .ref (ad k)) (C := RM) (T := TM) (N := 190) (ref := RM) C.1.1 C.1.2.1 C.1.2.2.2.2 mLays C.1.2.2.2.1 C.2 h.1 0 rfl rfl k hk (C.1.2.2.2.2 _ (mLinkIn k hk)) (fun x hx => by rw [mOwn k hk] at hx; exact hx) (by rw [mObj_get hk]; simp [mVal, hs]) hdg kk
/-- putfield of a number -/
theorem mpi (C : Cx p s m c cc nL RM args g) (h : Hx g (mW g o ad M) A H0 H locs) (k : Nat) (hk : k < 190) (hs : mk k = 5) (hfin : (TM k).2.2.2 = false) {ix : Nat} (hix : ix = mix k) {v : Int32} (hn : narrow (tyM k) (.int v) = .int v) (hfit : fits (tyM k) (.int v) = true) (hdg : decode cc pc = .ok (.putfield ix, 3))
    (kk : ∀ (H1 : Heap) (locs1 : List Loc), Hx g (mW g o ad (mput M k v)) A H0 H1 locs1 → W p l e R s m args below meth c H1 locs1 cells slots Q (F0 m (pc + 3) ls rest)) : W p l e R s m args below meth c H locs cells slots Q (F0 m pc ls (.int v :: .ref o :: rest)) := by
  subst hix
  refine va_put (D := (g.1, g.2.1)) (ci := 0) (v := .int v) (ty := tyM k) (C := RM) (T := TM) (N := 190) (ref := RM) C.1.1 C.1.2.1 C.1.2.2.2.2 mLays tyM tyM_ok nmM C.1.2.2.2.1 C.2 h.1 h.2.1 h.2.2.1 0 rfl rfl k hk (C.1.2.2.2.2 _ (mLinkIn k hk)) (fun x hx => by rw [mOwn k hk] at hx; exact hx) hfin (tyM_ok k hk) hn hfit (by simp [mObj]; exact hk) hdg (fun H1 locs1 hP hD hS => ?_)
  have e1 : (mW g o ad M).set 0 (o, .inr (0, (mObj ad M).set k (.int v))) = mW g o ad (va_up M.1 k v, M.2) := by
    rw [mObj_set hs]; rfl
  rw [e1] at hP hD
  exact kk H1 locs1 ⟨hP, hD, hS, h.2.2.2⟩
theorem mc_i {g : GG} {M : MS} {k : Nat} (h : mk k = 1) : mCell g M k = .inl (g.2.2 1, mln k, .inl (M.2.1 k)) := by simp [mCell, h]
theorem mc_b {g : GG} {M : MS} {k : Nat} (h : mk k = 0) : mCell g M k = .inl (g.2.2 0, mln k, .inl (M.2.1 k)) := by simp [mCell, h]
theorem mc_z {g : GG} {M : MS} {k : Nat} (h : mk k = 3) : mCell g M k = .inl (g.2.2 3, mln k, .inl (M.2.1 k)) := by simp [mCell, h]
theorem mc_j {g : GG} {M : MS} {k : Nat} (h : mk k = 2) : mCell g M k = .inl (g.2.2 2, mln k, .inr (.inl (M.2.2 k))) := by simp [mCell, h]
theorem mn5 {k q : Nat} (h : mk k = q) (hq : q ≠ 5) : mk k ≠ 5 := by rw [h]; exact hq
/-- iaload, baload of bytes and of booleans, laload -/
theorem mai (C : Cx p s m c cc nL RM args g) (h : Hx g (mW g o ad M) A H0 H locs) (k : Nat) (hk : k < 190) (hs : mk k = 1) {i : Int32} (hin : vp_in i (mln k)) {v : Int32} (hv : M.2.1 k i.toNatClampNeg = v) (hdg : decode cc pc = .ok (.iaload, 1)) (kk : W p l e R s m args below meth c H locs cells slots Q (F0 m (pc + 1) ls (.int v :: rest))) : W p l e R s m args below meth c H locs cells slots Q (F0 m pc ls (.int i :: .ref (ad k) :: rest)) := by
  subst hv
  exact va_iald C.1.1 C.1.2.1 C.2 h.1 (mps k + 1) 1 (by rw [mW_at hk (mn5 hs (by decide)), mc_i hs]) rfl hin hdg kk
theorem mab (C : Cx p s m c cc nL RM args g) (h : Hx g (mW g o ad M) A H0 H locs) (k : Nat) (hk : k < 190) (hs : mk k = 0) {i : Int32} (hin : vp_in i (mln k)) {v : Int32} (hv : M.2.1 k i.toNatClampNeg = v) (hdg : decode cc pc = .ok (.baload, 1)) (kk : W p l e R s m args below meth c H locs cells slots Q (F0 m (pc + 1) ls (.int v :: rest))) : W p l e R s m args below meth c H locs cells slots Q (F0 m pc ls (.int i :: .ref (ad k) :: rest)) := by
  subst hv
  exact va_bald C.1.1 C.1.2.1 C.2 h.1 (mps k + 1) 0 (by rw [mW_at hk (mn5 hs (by decide)), mc_b hs]) rfl hin hdg kk
theorem maz (C : Cx p s m c cc nL RM args g) (h : Hx g (mW g o ad M) A H0 H locs) (k : Nat) (hk : k < 190) (hs : mk k = 3) {i : Int32} (hin : vp_in i (mln k)) {v : Int32} (hv : M.2.1 k i.toNatClampNeg = v) (hdg : decode cc pc = .ok (.baload, 1)) (kk : W p l e R s m args below meth c H locs cells slots Q (F0 m (pc + 1) ls (.int v :: rest))) : W p l e R s m args below meth c H locs cells slots Q (F0 m pc ls (.int i :: .ref (ad k) :: rest)) := by
  subst hv
  exact va_zald C.1.1 C.1.2.1 C.2 h.1 (mps k + 1) 3 (by rw [mW_at hk (mn5 hs (by decide)), mc_z hs]) rfl hin hdg kk
theorem maj (C : Cx p s m c cc nL RM args g) (h : Hx g (mW g o ad M) A H0 H locs) (k : Nat) (hk : k < 190) (hs : mk k = 2) {i : Int32} (hin : vp_in i (mln k)) {v : Int64} (hv : M.2.2 k i.toNatClampNeg = v) (hdg : decode cc pc = .ok (.laload, 1)) (kk : W p l e R s m args below meth c H locs cells slots Q (F0 m (pc + 1) ls (.long v :: rest))) : W p l e R s m args below meth c H locs cells slots Q (F0 m pc ls (.int i :: .ref (ad k) :: rest)) := by
  subst hv
  exact va_lald C.1.1 C.1.2.1 C.2 h.1 (mps k + 1) 2 (by rw [mW_at hk (mn5 hs (by decide)), mc_j hs]) rfl hin hdg kk
theorem mc_ne {g : GG} {M : MS} {k : Nat} (f : Nat → Int32) (j : Nat) (hj : j ≠ k) : mCell g (M.1, va_up M.2.1 k f, M.2.2) j = mCell g M j := by simp [mCell, va_up, hj]
theorem mc_neL {g : GG} {M : MS} {k : Nat} (f : Nat → Int64) (j : Nat) (hj : j ≠ k) : mCell g (M.1, M.2.1, va_up M.2.2 k f) j = mCell g M j := by simp [mCell, va_up, hj]
/-- iastore, bastore of bytes and of booleans, lastore -/
theorem msi (C : Cx p s m c cc nL RM args g) (h : Hx g (mW g o ad M) A H0 H locs) (k : Nat) (hk : k < 190) (hs : mk k = 1) {i x : Int32} (hin : vp_in i (mln k)) (hdg : decode cc pc = .ok (.iastore, 1))
    (kk : ∀ (H1 : Heap) (locs1 : List Loc), Hx g (mW g o ad (mseti M k i.toNatClampNeg x)) A H0 H1 locs1 → W p l e R s m args below meth c H1 locs1 cells slots Q (F0 m (pc + 1) ls rest)) : W p l e R s m args below meth c H locs cells slots Q (F0 m pc ls (.int x :: .int i :: .ref (ad k) :: rest)) := by
  refine va_iast C.1.1 C.1.2.1 C.2 h.1 h.2.1 h.2.2.1 (mps k + 1) 1 (by rw [mW_at hk (mn5 hs (by decide)), mc_i hs]) rfl hin hdg (fun H1 locs1 hP hD hS => ?_)
  rw [mW_set (M := M) (M' := (M.1, va_up M.2.1 k (upd (M.2.1 k) i.toNatClampNeg x), M.2.2)) hk (mn5 hs (by decide)) rfl (by rw [mc_i hs]; simp [va_up]) (mc_ne _)] at hP hD
  exact kk H1 locs1 ⟨hP, hD, hS, h.2.2.2⟩
theorem msb (C : Cx p s m c cc nL RM args g) (h : Hx g (mW g o ad M) A H0 H locs) (k : Nat) (hk : k < 190) (hs : mk k = 0) {i x : Int32} (hin : vp_in i (mln k)) (hdg : decode cc pc = .ok (.bastore, 1))
    (kk : ∀ (H1 : Heap) (locs1 : List Loc), Hx g (mW g o ad (mseti M k i.toNatClampNeg (vp_nar .byte x))) A H0 H1 locs1 → W p l e R s m args below meth c H1 locs1 cells slots Q (F0 m (pc + 1) ls rest)) : W p l e R s m args below meth c H locs cells slots Q (F0 m pc ls (.int x :: .int i :: .ref (ad k) :: rest)) := by
  refine va_bast C.1.1 C.1.2.1 C.2 h.1 h.2.1 h.2.2.1 (mps k + 1) 0 (by rw [mW_at hk (mn5 hs (by decide)), mc_b hs]) rfl hin hdg (fun H1 locs1 hP hD hS => ?_)
  rw [mW_set (M := M) (M' := (M.1, va_up M.2.1 k (upd (M.2.1 k) i.toNatClampNeg (vp_nar .byte x)), M.2.2)) hk (mn5 hs (by decide)) rfl (by rw [mc_b hs]; simp [va_up]) (mc_ne _)] at hP hD
  exact kk H1 locs1 ⟨hP, hD, hS, h.2.2.2⟩
theorem msz (C : Cx p s m c cc nL RM args g) (h : Hx g (mW g o ad M) A H0 H locs) (k : Nat) (hk : k < 190) (hs : mk k = 3) {i x : Int32} (hin : vp_in i (mln k)) (hdg : decode cc pc = .ok (.bastore, 1))
    (kk : ∀ (H1 : Heap) (locs1 : List Loc), Hx g (mW g o ad (mseti M k i.toNatClampNeg (vp_nar .boolean x))) A H0 H1 locs1 → W p l e R s m args below meth c H1 locs1 cells slots Q (F0 m (pc + 1) ls rest)) : W p l e R s m args below meth c H locs cells slots Q (F0 m pc ls (.int x :: .int i :: .ref (ad k) :: rest)) := by
  refine va_zast C.1.1 C.1.2.1 C.2 h.1 h.2.1 h.2.2.1 (mps k + 1) 3 (by rw [mW_at hk (mn5 hs (by decide)), mc_z hs]) rfl hin hdg (fun H1 locs1 hP hD hS => ?_)
  rw [mW_set (M := M) (M' := (M.1, va_up M.2.1 k (upd (M.2.1 k) i.toNatClampNeg (vp_nar .boolean x)), M.2.2)) hk (mn5 hs (by decide)) rfl (by rw [mc_z hs]; simp [va_up]) (mc_ne _)] at hP hD
  exact kk H1 locs1 ⟨hP, hD, hS, h.2.2.2⟩
theorem msj (C : Cx p s m c cc nL RM args g) (h : Hx g (mW g o ad M) A H0 H locs) (k : Nat) (hk : k < 190) (hs : mk k = 2) {i : Int32} {x : Int64} (hin : vp_in i (mln k)) (hdg : decode cc pc = .ok (.lastore, 1))
    (kk : ∀ (H1 : Heap) (locs1 : List Loc), Hx g (mW g o ad (msetj M k i.toNatClampNeg x)) A H0 H1 locs1 → W p l e R s m args below meth c H1 locs1 cells slots Q (F0 m (pc + 1) ls rest)) : W p l e R s m args below meth c H locs cells slots Q (F0 m pc ls (.long x :: .int i :: .ref (ad k) :: rest)) := by
  refine va_last C.1.1 C.1.2.1 C.2 h.1 h.2.1 h.2.2.1 (mps k + 1) 2 (by rw [mW_at hk (mn5 hs (by decide)), mc_j hs]) rfl hin hdg (fun H1 locs1 hP hD hS => ?_)
  rw [mW_set (M := M) (M' := (M.1, M.2.1, va_up M.2.2 k (vp_updL (M.2.2 k) i.toNatClampNeg x))) hk (mn5 hs (by decide)) rfl (by rw [mc_j hs]; simp [va_up]) (mc_neL _)] at hP hD
  exact kk H1 locs1 ⟨hP, hD, hS, h.2.2.2⟩
end MRows
end
section
theorem dM_feed_0 : decode cM_feed 0 = .ok (.aload_n 0, 1) := by decide +kernel
theorem dM_feed_1 : decode cM_feed 1 = .ok (.getfield 402, 3) := by decide +kernel
theorem dM_feed_4 : decode cM_feed 4 = .ok (.sipush 4980, 3) := by decide +kernel
theorem dM_feed_7 : decode cM_feed 7 = .ok (.if_icmp .le 5, 3) := by decide +kernel
theorem dM_feed_10 : decode cM_feed 10 = .ok (.iconst 0, 1) := by decide +kernel
theorem dM_feed_11 : decode cM_feed 11 = .ok (.ireturn, 1) := by decide +kernel
theorem dM_feed_12 : decode cM_feed 12 = .ok (.aload_n 0, 1) := by decide +kernel
theorem dM_feed_13 : decode cM_feed 13 = .ok (.iload_n 1, 1) := by decide +kernel
theorem dM_feed_14 : decode cM_feed 14 = .ok (.invokevirtual 405, 3) := by decide +kernel
theorem dM_feed_17 : decode cM_feed 17 = .ok (.aload_n 0, 1) := by decide +kernel
theorem dM_feed_18 : decode cM_feed 18 = .ok (.iload_n 2, 1) := by decide +kernel
theorem dM_feed_19 : decode cM_feed 19 = .ok (.invokevirtual 405, 3) := by decide +kernel
theorem dM_feed_22 : decode cM_feed 22 = .ok (.aload_n 0, 1) := by decide +kernel
theorem dM_feed_23 : decode cM_feed 23 = .ok (.iload_n 3, 1) := by decide +kernel
theorem dM_feed_24 : decode cM_feed 24 = .ok (.invokevirtual 405, 3) := by decide +kernel
theorem dM_feed_27 : decode cM_feed 27 = .ok (.aload_n 0, 1) := by decide +kernel
theorem dM_feed_28 : decode cM_feed 28 = .ok (.iload 4, 2) := by decide +kernel
theorem dM_feed_30 : decode cM_feed 30 = .ok (.invokevirtual 405, 3) := by decide +kernel
theorem dM_feed_33 : decode cM_feed 33 = .ok (.aload_n 0, 1) := by decide +kernel
theorem dM_feed_34 : decode cM_feed 34 = .ok (.iload 5, 2) := by decide +kernel
theorem dM_feed_36 : decode cM_feed 36 = .ok (.invokevirtual 405, 3) := by decide +kernel
theorem dM_feed_39 : decode cM_feed 39 = .ok (.iconst 1, 1) := by decide +kernel
theorem dM_feed_40 : decode cM_feed 40 = .ok (.ireturn, 1) := by decide +kernel
theorem dM_four_0 : decode cM_four 0 = .ok (.bipush 24, 2) := by decide +kernel
theorem dM_four_2 : decode cM_four 2 = .ok (.istore_n 2, 1) := by decide +kernel
theorem dM_four_3 : decode cM_four 3 = .ok (.iload_n 2, 1) := by decide +kernel
theorem dM_four_4 : decode cM_four 4 = .ok (.ifCond .lt 32, 3) := by decide +kernel
theorem dM_four_7 : decode cM_four 7 = .ok (.aload_n 0, 1) := by decide +kernel
theorem dM_four_8 : decode cM_four 8 = .ok (.getfield 9, 3) := by decide +kernel
theorem dM_four_11 : decode cM_four 11 = .ok (.aload_n 0, 1) := by decide +kernel
theorem dM_four_12 : decode cM_four 12 = .ok (.getfield 402, 3) := by decide +kernel
theorem dM_four_15 : decode cM_four 15 = .ok (.iload_n 1, 1) := by decide +kernel
theorem dM_four_16 : decode cM_four 16 = .ok (.iload_n 2, 1) := by decide +kernel
theorem dM_four_17 : decode cM_four 17 = .ok (.ishr, 1) := by decide +kernel
theorem dM_four_18 : decode cM_four 18 = .ok (.i2b, 1) := by decide +kernel
theorem dM_four_19 : decode cM_four 19 = .ok (.bastore, 1) := by decide +kernel
theorem dM_four_20 : decode cM_four 20 = .ok (.aload_n 0, 1) := by decide +kernel
theorem dM_four_21 : decode cM_four 21 = .ok (.dup, 1) := by decide +kernel
theorem dM_four_22 : decode cM_four 22 = .ok (.getfield 402, 3) := by decide +kernel
theorem dM_four_25 : decode cM_four 25 = .ok (.iconst 1, 1) := by decide +kernel
theorem dM_four_26 : decode cM_four 26 = .ok (.iadd, 1) := by decide +kernel
theorem dM_four_27 : decode cM_four 27 = .ok (.putfield 402, 3) := by decide +kernel
theorem dM_four_30 : decode cM_four 30 = .ok (.iinc 2 (-8), 3) := by decide +kernel
theorem dM_four_33 : decode cM_four 33 = .ok (.goto (-30), 3) := by decide +kernel
theorem dM_four_36 : decode cM_four 36 = .ok (.return_, 1) := by decide +kernel
theorem dM_toText_0 : decode cM_toText 0 = .ok (.iconst 0, 1) := by decide +kernel
theorem dM_toText_1 : decode cM_toText 1 = .ok (.istore_n 2, 1) := by decide +kernel
theorem dM_toText_2 : decode cM_toText 2 = .ok (.iload_n 2, 1) := by decide +kernel
theorem dM_toText_3 : decode cM_toText 3 = .ok (.iload_n 1, 1) := by decide +kernel
theorem dM_toText_4 : decode cM_toText 4 = .ok (.if_icmp .ge 21, 3) := by decide +kernel
theorem dM_toText_7 : decode cM_toText 7 = .ok (.aload_n 0, 1) := by decide +kernel
theorem dM_toText_8 : decode cM_toText 8 = .ok (.getfield 13, 3) := by decide +kernel
theorem dM_toText_11 : decode cM_toText 11 = .ok (.iload_n 2, 1) := by decide +kernel
theorem dM_toText_12 : decode cM_toText 12 = .ok (.aload_n 0, 1) := by decide +kernel
theorem dM_toText_13 : decode cM_toText 13 = .ok (.getfield 9, 3) := by decide +kernel
theorem dM_toText_16 : decode cM_toText 16 = .ok (.iload_n 2, 1) := by decide +kernel
theorem dM_toText_17 : decode cM_toText 17 = .ok (.baload, 1) := by decide +kernel
theorem dM_toText_18 : decode cM_toText 18 = .ok (.bastore, 1) := by decide +kernel
theorem dM_toText_19 : decode cM_toText 19 = .ok (.iinc 2 1, 3) := by decide +kernel
theorem dM_toText_22 : decode cM_toText 22 = .ok (.goto (-20), 3) := by decide +kernel
theorem dM_toText_25 : decode cM_toText 25 = .ok (.aload_n 0, 1) := by decide +kernel
theorem dM_toText_26 : decode cM_toText 26 = .ok (.iload_n 1, 1) := by decide +kernel
theorem dM_toText_27 : decode cM_toText 27 = .ok (.putfield 409, 3) := by decide +kernel
theorem dM_toText_30 : decode cM_toText 30 = .ok (.aload_n 0, 1) := by decide +kernel
theorem dM_toText_31 : decode cM_toText 31 = .ok (.iconst 0, 1) := by decide +kernel
theorem dM_toText_32 : decode cM_toText 32 = .ok (.putfield 402, 3) := by decide +kernel
theorem dM_toText_35 : decode cM_toText 35 = .ok (.return_, 1) := by decide +kernel
theorem dM_token_0 : decode cM_token 0 = .ok (.aload_n 0, 1) := by decide +kernel
theorem dM_token_1 : decode cM_token 1 = .ok (.getfield 23, 3) := by decide +kernel
theorem dM_token_4 : decode cM_token 4 = .ok (.aload_n 0, 1) := by decide +kernel
theorem dM_token_5 : decode cM_token 5 = .ok (.getfield 418, 3) := by decide +kernel
theorem dM_token_8 : decode cM_token 8 = .ok (.iload_n 1, 1) := by decide +kernel
theorem dM_token_9 : decode cM_token 9 = .ok (.iastore, 1) := by decide +kernel
theorem dM_token_10 : decode cM_token 10 = .ok (.aload_n 0, 1) := by decide +kernel
theorem dM_token_11 : decode cM_token 11 = .ok (.getfield 27, 3) := by decide +kernel
theorem dM_token_14 : decode cM_token 14 = .ok (.aload_n 0, 1) := by decide +kernel
theorem dM_token_15 : decode cM_token 15 = .ok (.getfield 418, 3) := by decide +kernel
theorem dM_token_18 : decode cM_token 18 = .ok (.iload_n 2, 1) := by decide +kernel
theorem dM_token_19 : decode cM_token 19 = .ok (.iastore, 1) := by decide +kernel
theorem dM_token_20 : decode cM_token 20 = .ok (.aload_n 0, 1) := by decide +kernel
theorem dM_token_21 : decode cM_token 21 = .ok (.getfield 30, 3) := by decide +kernel
theorem dM_token_24 : decode cM_token 24 = .ok (.aload_n 0, 1) := by decide +kernel
theorem dM_token_25 : decode cM_token 25 = .ok (.getfield 418, 3) := by decide +kernel
theorem dM_token_28 : decode cM_token 28 = .ok (.lload_n 3, 1) := by decide +kernel
theorem dM_token_29 : decode cM_token 29 = .ok (.lastore, 1) := by decide +kernel
theorem dM_token_30 : decode cM_token 30 = .ok (.aload_n 0, 1) := by decide +kernel
theorem dM_token_31 : decode cM_token 31 = .ok (.dup, 1) := by decide +kernel
theorem dM_token_32 : decode cM_token 32 = .ok (.getfield 418, 3) := by decide +kernel
theorem dM_token_35 : decode cM_token 35 = .ok (.iconst 1, 1) := by decide +kernel
theorem dM_token_36 : decode cM_token 36 = .ok (.iadd, 1) := by decide +kernel
theorem dM_token_37 : decode cM_token 37 = .ok (.putfield 418, 3) := by decide +kernel
theorem dM_token_40 : decode cM_token 40 = .ok (.return_, 1) := by decide +kernel
theorem dM_cut_0 : decode cM_cut 0 = .ok (.aload_n 0, 1) := by decide +kernel
theorem dM_cut_1 : decode cM_cut 1 = .ok (.iconst 0, 1) := by decide +kernel
theorem dM_cut_2 : decode cM_cut 2 = .ok (.putfield 418, 3) := by decide +kernel
theorem dM_cut_5 : decode cM_cut 5 = .ok (.iconst 0, 1) := by decide +kernel
theorem dM_cut_6 : decode cM_cut 6 = .ok (.istore_n 1, 1) := by decide +kernel
theorem dM_cut_7 : decode cM_cut 7 = .ok (.iconst 0, 1) := by decide +kernel
theorem dM_cut_8 : decode cM_cut 8 = .ok (.istore_n 2, 1) := by decide +kernel
theorem dM_cut_9 : decode cM_cut 9 = .ok (.iload_n 2, 1) := by decide +kernel
theorem dM_cut_10 : decode cM_cut 10 = .ok (.ifCond .ne 60, 3) := by decide +kernel
theorem dM_cut_13 : decode cM_cut 13 = .ok (.aload_n 0, 1) := by decide +kernel
theorem dM_cut_14 : decode cM_cut 14 = .ok (.getfield 418, 3) := by decide +kernel
theorem dM_cut_17 : decode cM_cut 17 = .ok (.sipush 1200, 3) := by decide +kernel
theorem dM_cut_20 : decode cM_cut 20 = .ok (.if_icmp .gt 50, 3) := by decide +kernel
theorem dM_cut_23 : decode cM_cut 23 = .ok (.aload_n 0, 1) := by decide +kernel
theorem dM_cut_24 : decode cM_cut 24 = .ok (.iload_n 1, 1) := by decide +kernel
theorem dM_cut_25 : decode cM_cut 25 = .ok (.invokevirtual 421, 3) := by decide +kernel
theorem dM_cut_28 : decode cM_cut 28 = .ok (.istore_n 1, 1) := by decide +kernel
theorem dM_cut_29 : decode cM_cut 29 = .ok (.iload_n 1, 1) := by decide +kernel
theorem dM_cut_30 : decode cM_cut 30 = .ok (.aload_n 0, 1) := by decide +kernel
theorem dM_cut_31 : decode cM_cut 31 = .ok (.getfield 409, 3) := by decide +kernel
theorem dM_cut_34 : decode cM_cut 34 = .ok (.if_icmp .lt 6, 3) := by decide +kernel
theorem dM_cut_37 : decode cM_cut 37 = .ok (.goto 33, 3) := by decide +kernel
theorem dM_cut_40 : decode cM_cut 40 = .ok (.aload_n 0, 1) := by decide +kernel
theorem dM_cut_41 : decode cM_cut 41 = .ok (.iload_n 1, 1) := by decide +kernel
theorem dM_cut_42 : decode cM_cut 42 = .ok (.invokevirtual 424, 3) := by decide +kernel
theorem dM_cut_45 : decode cM_cut 45 = .ok (.istore_n 1, 1) := by decide +kernel
theorem dM_cut_46 : decode cM_cut 46 = .ok (.aload_n 0, 1) := by decide +kernel
theorem dM_cut_47 : decode cM_cut 47 = .ok (.getfield 23, 3) := by decide +kernel
theorem dM_cut_50 : decode cM_cut 50 = .ok (.aload_n 0, 1) := by decide +kernel
theorem dM_cut_51 : decode cM_cut 51 = .ok (.getfield 418, 3) := by decide +kernel
theorem dM_cut_54 : decode cM_cut 54 = .ok (.iconst 1, 1) := by decide +kernel
theorem dM_cut_55 : decode cM_cut 55 = .ok (.isub, 1) := by decide +kernel
theorem dM_cut_56 : decode cM_cut 56 = .ok (.iaload, 1) := by decide +kernel
theorem dM_cut_57 : decode cM_cut 57 = .ok (.iconst 5, 1) := by decide +kernel
theorem dM_cut_58 : decode cM_cut 58 = .ok (.if_icmp .ne 7, 3) := by decide +kernel
theorem dM_cut_61 : decode cM_cut 61 = .ok (.iconst 1, 1) := by decide +kernel
theorem dM_cut_62 : decode cM_cut 62 = .ok (.goto 4, 3) := by decide +kernel
theorem dM_cut_65 : decode cM_cut 65 = .ok (.iconst 0, 1) := by decide +kernel
theorem dM_cut_66 : decode cM_cut 66 = .ok (.istore_n 2, 1) := by decide +kernel
theorem dM_cut_67 : decode cM_cut 67 = .ok (.goto (-58), 3) := by decide +kernel
theorem dM_cut_70 : decode cM_cut 70 = .ok (.iload_n 2, 1) := by decide +kernel
theorem dM_cut_71 : decode cM_cut 71 = .ok (.ifCond .ne 23, 3) := by decide +kernel
theorem dM_cut_74 : decode cM_cut 74 = .ok (.aload_n 0, 1) := by decide +kernel
theorem dM_cut_75 : decode cM_cut 75 = .ok (.getfield 418, 3) := by decide +kernel
theorem dM_cut_78 : decode cM_cut 78 = .ok (.sipush 1200, 3) := by decide +kernel
theorem dM_cut_81 : decode cM_cut 81 = .ok (.if_icmp .gt 13, 3) := by decide +kernel
theorem dM_cut_84 : decode cM_cut 84 = .ok (.aload_n 0, 1) := by decide +kernel
theorem dM_cut_85 : decode cM_cut 85 = .ok (.iconst 0, 1) := by decide +kernel
theorem dM_cut_86 : decode cM_cut 86 = .ok (.aload_n 0, 1) := by decide +kernel
theorem dM_cut_87 : decode cM_cut 87 = .ok (.getfield 409, 3) := by decide +kernel
theorem dM_cut_90 : decode cM_cut 90 = .ok (.lconst 0, 1) := by decide +kernel
theorem dM_cut_91 : decode cM_cut 91 = .ok (.invokevirtual 427, 3) := by decide +kernel
theorem dM_cut_94 : decode cM_cut 94 = .ok (.return_, 1) := by decide +kernel
theorem dM_behindBlanks_0 : decode cM_behindBlanks 0 = .ok (.iload_n 1, 1) := by decide +kernel
theorem dM_behindBlanks_1 : decode cM_behindBlanks 1 = .ok (.istore_n 2, 1) := by decide +kernel
theorem dM_behindBlanks_2 : decode cM_behindBlanks 2 = .ok (.iconst 1, 1) := by decide +kernel
theorem dM_behindBlanks_3 : decode cM_behindBlanks 3 = .ok (.istore_n 3, 1) := by decide +kernel
theorem dM_behindBlanks_4 : decode cM_behindBlanks 4 = .ok (.iload_n 3, 1) := by decide +kernel
theorem dM_behindBlanks_5 : decode cM_behindBlanks 5 = .ok (.ifCond .eq 88, 3) := by decide +kernel
theorem dM_behindBlanks_8 : decode cM_behindBlanks 8 = .ok (.iload_n 2, 1) := by decide +kernel
theorem dM_behindBlanks_9 : decode cM_behindBlanks 9 = .ok (.aload_n 0, 1) := by decide +kernel
theorem dM_behindBlanks_10 : decode cM_behindBlanks 10 = .ok (.getfield 409, 3) := by decide +kernel
theorem dM_behindBlanks_13 : decode cM_behindBlanks 13 = .ok (.if_icmp .ge 80, 3) := by decide +kernel
theorem dM_behindBlanks_16 : decode cM_behindBlanks 16 = .ok (.aload_n 0, 1) := by decide +kernel
theorem dM_behindBlanks_17 : decode cM_behindBlanks 17 = .ok (.iload_n 2, 1) := by decide +kernel
theorem dM_behindBlanks_18 : decode cM_behindBlanks 18 = .ok (.invokevirtual 431, 3) := by decide +kernel
theorem dM_behindBlanks_21 : decode cM_behindBlanks 21 = .ok (.istore 4, 2) := by decide +kernel
theorem dM_behindBlanks_23 : decode cM_behindBlanks 23 = .ok (.iload 4, 2) := by decide +kernel
theorem dM_behindBlanks_25 : decode cM_behindBlanks 25 = .ok (.bipush 35, 2) := by decide +kernel
theorem dM_behindBlanks_27 : decode cM_behindBlanks 27 = .ok (.if_icmp .ne 27, 3) := by decide +kernel
theorem dM_behindBlanks_30 : decode cM_behindBlanks 30 = .ok (.iload_n 2, 1) := by decide +kernel
theorem dM_behindBlanks_31 : decode cM_behindBlanks 31 = .ok (.aload_n 0, 1) := by decide +kernel
theorem dM_behindBlanks_32 : decode cM_behindBlanks 32 = .ok (.getfield 409, 3) := by decide +kernel
theorem dM_behindBlanks_35 : decode cM_behindBlanks 35 = .ok (.if_icmp .ge 55, 3) := by decide +kernel
theorem dM_behindBlanks_38 : decode cM_behindBlanks 38 = .ok (.aload_n 0, 1) := by decide +kernel
theorem dM_behindBlanks_39 : decode cM_behindBlanks 39 = .ok (.iload_n 2, 1) := by decide +kernel
theorem dM_behindBlanks_40 : decode cM_behindBlanks 40 = .ok (.invokevirtual 431, 3) := by decide +kernel
theorem dM_behindBlanks_43 : decode cM_behindBlanks 43 = .ok (.bipush 10, 2) := by decide +kernel
theorem dM_behindBlanks_45 : decode cM_behindBlanks 45 = .ok (.if_icmp .eq 45, 3) := by decide +kernel
theorem dM_behindBlanks_48 : decode cM_behindBlanks 48 = .ok (.iinc 2 1, 3) := by decide +kernel
theorem dM_behindBlanks_51 : decode cM_behindBlanks 51 = .ok (.goto (-21), 3) := by decide +kernel
theorem dM_behindBlanks_54 : decode cM_behindBlanks 54 = .ok (.iload 4, 2) := by decide +kernel
theorem dM_behindBlanks_56 : decode cM_behindBlanks 56 = .ok (.bipush 9, 2) := by decide +kernel
theorem dM_behindBlanks_58 : decode cM_behindBlanks 58 = .ok (.if_icmp .eq 24, 3) := by decide +kernel
theorem dM_behindBlanks_61 : decode cM_behindBlanks 61 = .ok (.iload 4, 2) := by decide +kernel
theorem dM_behindBlanks_63 : decode cM_behindBlanks 63 = .ok (.bipush 10, 2) := by decide +kernel
theorem dM_behindBlanks_65 : decode cM_behindBlanks 65 = .ok (.if_icmp .eq 17, 3) := by decide +kernel
theorem dM_behindBlanks_68 : decode cM_behindBlanks 68 = .ok (.iload 4, 2) := by decide +kernel
theorem dM_behindBlanks_70 : decode cM_behindBlanks 70 = .ok (.bipush 13, 2) := by decide +kernel
theorem dM_behindBlanks_72 : decode cM_behindBlanks 72 = .ok (.if_icmp .eq 10, 3) := by decide +kernel
theorem dM_behindBlanks_75 : decode cM_behindBlanks 75 = .ok (.iload 4, 2) := by decide +kernel
theorem dM_behindBlanks_77 : decode cM_behindBlanks 77 = .ok (.bipush 32, 2) := by decide +kernel
theorem dM_behindBlanks_79 : decode cM_behindBlanks 79 = .ok (.if_icmp .ne 9, 3) := by decide +kernel
theorem dM_behindBlanks_82 : decode cM_behindBlanks 82 = .ok (.iinc 2 1, 3) := by decide +kernel
theorem dM_behindBlanks_85 : decode cM_behindBlanks 85 = .ok (.goto 5, 3) := by decide +kernel
theorem dM_behindBlanks_88 : decode cM_behindBlanks 88 = .ok (.iconst 0, 1) := by decide +kernel
theorem dM_behindBlanks_89 : decode cM_behindBlanks 89 = .ok (.istore_n 3, 1) := by decide +kernel
theorem dM_behindBlanks_90 : decode cM_behindBlanks 90 = .ok (.goto (-86), 3) := by decide +kernel
theorem dM_behindBlanks_93 : decode cM_behindBlanks 93 = .ok (.iload_n 2, 1) := by decide +kernel
theorem dM_behindBlanks_94 : decode cM_behindBlanks 94 = .ok (.ireturn, 1) := by decide +kernel
theorem dM_breaks_0 : decode cM_breaks 0 = .ok (.aload_n 0, 1) := by decide +kernel
theorem dM_breaks_1 : decode cM_breaks 1 = .ok (.getfield 444, 3) := by decide +kernel
theorem dM_breaks_4 : decode cM_breaks 4 = .ok (.ifCond .ne 13, 3) := by decide +kernel
theorem dM_breaks_7 : decode cM_breaks 7 = .ok (.aload_n 0, 1) := by decide +kernel
theorem dM_breaks_8 : decode cM_breaks 8 = .ok (.iload_n 1, 1) := by decide +kernel
theorem dM_breaks_9 : decode cM_breaks 9 = .ok (.putfield 444, 3) := by decide +kernel
theorem dM_breaks_12 : decode cM_breaks 12 = .ok (.aload_n 0, 1) := by decide +kernel
theorem dM_breaks_13 : decode cM_breaks 13 = .ok (.iload_n 2, 1) := by decide +kernel
theorem dM_breaks_14 : decode cM_breaks 14 = .ok (.putfield 447, 3) := by decide +kernel
theorem dM_breaks_17 : decode cM_breaks 17 = .ok (.return_, 1) := by decide +kernel
theorem dM_wrong_0 : decode cM_wrong 0 = .ok (.aload_n 0, 1) := by decide +kernel
theorem dM_wrong_1 : decode cM_wrong 1 = .ok (.iconst 1, 1) := by decide +kernel
theorem dM_wrong_2 : decode cM_wrong 2 = .ok (.aload_n 0, 1) := by decide +kernel
theorem dM_wrong_3 : decode cM_wrong 3 = .ok (.getfield 27, 3) := by decide +kernel
theorem dM_wrong_6 : decode cM_wrong 6 = .ok (.aload_n 0, 1) := by decide +kernel
theorem dM_wrong_7 : decode cM_wrong 7 = .ok (.getfield 450, 3) := by decide +kernel
theorem dM_wrong_10 : decode cM_wrong 10 = .ok (.iaload, 1) := by decide +kernel
theorem dM_wrong_11 : decode cM_wrong 11 = .ok (.invokevirtual 453, 3) := by decide +kernel
theorem dM_wrong_14 : decode cM_wrong 14 = .ok (.return_, 1) := by decide +kernel
theorem dM_stops_0 : decode cM_stops 0 = .ok (.aload_n 0, 1) := by decide +kernel
theorem dM_stops_1 : decode cM_stops 1 = .ok (.getfield 444, 3) := by decide +kernel
theorem dM_stops_4 : decode cM_stops 4 = .ok (.ifCond .le 14, 3) := by decide +kernel
theorem dM_stops_7 : decode cM_stops 7 = .ok (.aload_n 0, 1) := by decide +kernel
theorem dM_stops_8 : decode cM_stops 8 = .ok (.getfield 457, 3) := by decide +kernel
theorem dM_stops_11 : decode cM_stops 11 = .ok (.ifCond .ne 7, 3) := by decide +kernel
theorem dM_stops_14 : decode cM_stops 14 = .ok (.iconst 1, 1) := by decide +kernel
theorem dM_stops_15 : decode cM_stops 15 = .ok (.goto 4, 3) := by decide +kernel
theorem dM_stops_18 : decode cM_stops 18 = .ok (.iconst 0, 1) := by decide +kernel
theorem dM_stops_19 : decode cM_stops 19 = .ok (.ireturn, 1) := by decide +kernel
theorem dM_isWord_0 : decode cM_isWord 0 = .ok (.aload_n 0, 1) := by decide +kernel
theorem dM_isWord_1 : decode cM_isWord 1 = .ok (.getfield 23, 3) := by decide +kernel
theorem dM_isWord_4 : decode cM_isWord 4 = .ok (.aload_n 0, 1) := by decide +kernel
theorem dM_isWord_5 : decode cM_isWord 5 = .ok (.getfield 450, 3) := by decide +kernel
theorem dM_isWord_8 : decode cM_isWord 8 = .ok (.iaload, 1) := by decide +kernel
theorem dM_isWord_9 : decode cM_isWord 9 = .ok (.iconst 4, 1) := by decide +kernel
theorem dM_isWord_10 : decode cM_isWord 10 = .ok (.if_icmp .ne 22, 3) := by decide +kernel
theorem dM_isWord_13 : decode cM_isWord 13 = .ok (.aload_n 0, 1) := by decide +kernel
theorem dM_isWord_14 : decode cM_isWord 14 = .ok (.getfield 30, 3) := by decide +kernel
theorem dM_isWord_17 : decode cM_isWord 17 = .ok (.aload_n 0, 1) := by decide +kernel
theorem dM_isWord_18 : decode cM_isWord 18 = .ok (.getfield 450, 3) := by decide +kernel
theorem dM_isWord_21 : decode cM_isWord 21 = .ok (.laload, 1) := by decide +kernel
theorem dM_isWord_22 : decode cM_isWord 22 = .ok (.iload_n 1, 1) := by decide +kernel
theorem dM_isWord_23 : decode cM_isWord 23 = .ok (.i2l, 1) := by decide +kernel
theorem dM_isWord_24 : decode cM_isWord 24 = .ok (.lcmp, 1) := by decide +kernel
theorem dM_isWord_25 : decode cM_isWord 25 = .ok (.ifCond .ne 7, 3) := by decide +kernel
theorem dM_isWord_28 : decode cM_isWord 28 = .ok (.iconst 1, 1) := by decide +kernel
theorem dM_isWord_29 : decode cM_isWord 29 = .ok (.goto 4, 3) := by decide +kernel
theorem dM_isWord_32 : decode cM_isWord 32 = .ok (.iconst 0, 1) := by decide +kernel
theorem dM_isWord_33 : decode cM_isWord 33 = .ok (.ireturn, 1) := by decide +kernel
theorem dM_mayWord_0 : decode cM_mayWord 0 = .ok (.aload_n 0, 1) := by decide +kernel
theorem dM_mayWord_1 : decode cM_mayWord 1 = .ok (.invokevirtual 461, 3) := by decide +kernel
theorem dM_mayWord_4 : decode cM_mayWord 4 = .ok (.ifCond .ne 15, 3) := by decide +kernel
theorem dM_mayWord_7 : decode cM_mayWord 7 = .ok (.aload_n 0, 1) := by decide +kernel
theorem dM_mayWord_8 : decode cM_mayWord 8 = .ok (.iload_n 1, 1) := by decide +kernel
theorem dM_mayWord_9 : decode cM_mayWord 9 = .ok (.invokevirtual 471, 3) := by decide +kernel
theorem dM_mayWord_12 : decode cM_mayWord 12 = .ok (.ifCond .eq 7, 3) := by decide +kernel
theorem dM_mayWord_15 : decode cM_mayWord 15 = .ok (.iconst 1, 1) := by decide +kernel
theorem dM_mayWord_16 : decode cM_mayWord 16 = .ok (.goto 4, 3) := by decide +kernel
theorem dM_mayWord_19 : decode cM_mayWord 19 = .ok (.iconst 0, 1) := by decide +kernel
theorem dM_mayWord_20 : decode cM_mayWord 20 = .ok (.istore_n 2, 1) := by decide +kernel
theorem dM_mayWord_21 : decode cM_mayWord 21 = .ok (.iload_n 2, 1) := by decide +kernel
theorem dM_mayWord_22 : decode cM_mayWord 22 = .ok (.ifCond .eq 7, 3) := by decide +kernel
theorem dM_mayWord_25 : decode cM_mayWord 25 = .ok (.aload_n 0, 1) := by decide +kernel
theorem dM_mayWord_26 : decode cM_mayWord 26 = .ok (.invokevirtual 468, 3) := by decide +kernel
theorem dM_mayWord_29 : decode cM_mayWord 29 = .ok (.iload_n 2, 1) := by decide +kernel
theorem dM_mayWord_30 : decode cM_mayWord 30 = .ok (.ireturn, 1) := by decide +kernel
theorem dM_system_0 : decode cM_system 0 = .ok (.aload_n 0, 1) := by decide +kernel
theorem dM_system_1 : decode cM_system 1 = .ok (.iconst 0, 1) := by decide +kernel
theorem dM_system_2 : decode cM_system 2 = .ok (.putfield 450, 3) := by decide +kernel
theorem dM_system_5 : decode cM_system 5 = .ok (.aload_n 0, 1) := by decide +kernel
theorem dM_system_6 : decode cM_system 6 = .ok (.iconst 0, 1) := by decide +kernel
theorem dM_system_7 : decode cM_system 7 = .ok (.putfield 480, 3) := by decide +kernel
theorem dM_system_10 : decode cM_system 10 = .ok (.aload_n 0, 1) := by decide +kernel
theorem dM_system_11 : decode cM_system 11 = .ok (.iconst 0, 1) := by decide +kernel
theorem dM_system_12 : decode cM_system 12 = .ok (.putfield 504, 3) := by decide +kernel
theorem dM_system_15 : decode cM_system 15 = .ok (.aload_n 0, 1) := by decide +kernel
theorem dM_system_16 : decode cM_system 16 = .ok (.iconst 0, 1) := by decide +kernel
theorem dM_system_17 : decode cM_system 17 = .ok (.putfield 507, 3) := by decide +kernel
theorem dM_system_20 : decode cM_system 20 = .ok (.aload_n 0, 1) := by decide +kernel
theorem dM_system_21 : decode cM_system 21 = .ok (.iconst 0, 1) := by decide +kernel
theorem dM_system_22 : decode cM_system 22 = .ok (.putfield 510, 3) := by decide +kernel
theorem dM_system_25 : decode cM_system 25 = .ok (.aload_n 0, 1) := by decide +kernel
theorem dM_system_26 : decode cM_system 26 = .ok (.iconst 0, 1) := by decide +kernel
theorem dM_system_27 : decode cM_system 27 = .ok (.putfield 513, 3) := by decide +kernel
theorem dM_system_30 : decode cM_system 30 = .ok (.aload_n 0, 1) := by decide +kernel
theorem dM_system_31 : decode cM_system 31 = .ok (.iconst 0, 1) := by decide +kernel
theorem dM_system_32 : decode cM_system 32 = .ok (.putfield 516, 3) := by decide +kernel
theorem dM_system_35 : decode cM_system 35 = .ok (.aload_n 0, 1) := by decide +kernel
theorem dM_system_36 : decode cM_system 36 = .ok (.iconst 0, 1) := by decide +kernel
theorem dM_system_37 : decode cM_system 37 = .ok (.putfield 519, 3) := by decide +kernel
theorem dM_system_40 : decode cM_system 40 = .ok (.iconst 0, 1) := by decide +kernel
theorem dM_system_41 : decode cM_system 41 = .ok (.istore_n 1, 1) := by decide +kernel
theorem dM_system_42 : decode cM_system 42 = .ok (.iconst 0, 1) := by decide +kernel
theorem dM_system_43 : decode cM_system 43 = .ok (.istore_n 2, 1) := by decide +kernel
theorem dM_system_44 : decode cM_system 44 = .ok (.iconst 0, 1) := by decide +kernel
theorem dM_system_45 : decode cM_system 45 = .ok (.istore_n 3, 1) := by decide +kernel
theorem dM_system_46 : decode cM_system 46 = .ok (.iconst 1, 1) := by decide +kernel
theorem dM_system_47 : decode cM_system 47 = .ok (.istore 4, 2) := by decide +kernel
theorem dM_system_49 : decode cM_system 49 = .ok (.aload_n 0, 1) := by decide +kernel
theorem dM_system_50 : decode cM_system 50 = .ok (.invokevirtual 461, 3) := by decide +kernel
theorem dM_system_53 : decode cM_system 53 = .ok (.ifCond .ne 83, 3) := by decide +kernel
theorem dM_system_56 : decode cM_system 56 = .ok (.iload 4, 2) := by decide +kernel
theorem dM_system_58 : decode cM_system 58 = .ok (.ifCond .ne 15, 3) := by decide +kernel
theorem dM_system_61 : decode cM_system 61 = .ok (.aload_n 0, 1) := by decide +kernel
theorem dM_system_62 : decode cM_system 62 = .ok (.getfield 23, 3) := by decide +kernel
theorem dM_system_65 : decode cM_system 65 = .ok (.aload_n 0, 1) := by decide +kernel
theorem dM_system_66 : decode cM_system 66 = .ok (.getfield 450, 3) := by decide +kernel
theorem dM_system_69 : decode cM_system 69 = .ok (.iaload, 1) := by decide +kernel
theorem dM_system_70 : decode cM_system 70 = .ok (.ifCond .eq 66, 3) := by decide +kernel
theorem dM_system_73 : decode cM_system 73 = .ok (.iconst 0, 1) := by decide +kernel
theorem dM_system_74 : decode cM_system 74 = .ok (.istore 4, 2) := by decide +kernel
theorem dM_system_76 : decode cM_system 76 = .ok (.aload_n 0, 1) := by decide +kernel
theorem dM_system_77 : decode cM_system 77 = .ok (.iconst 0, 1) := by decide +kernel
theorem dM_system_78 : decode cM_system 78 = .ok (.invokevirtual 522, 3) := by decide +kernel
theorem dM_system_81 : decode cM_system 81 = .ok (.ifCond .eq 10, 3) := by decide +kernel
theorem dM_system_84 : decode cM_system 84 = .ok (.aload_n 0, 1) := by decide +kernel
theorem dM_system_85 : decode cM_system 85 = .ok (.invokevirtual 525, 3) := by decide +kernel
theorem dM_system_88 : decode cM_system 88 = .ok (.goto (-39), 3) := by decide +kernel
theorem dM_system_91 : decode cM_system 91 = .ok (.aload_n 0, 1) := by decide +kernel
theorem dM_system_92 : decode cM_system 92 = .ok (.iconst 1, 1) := by decide +kernel
theorem dM_system_93 : decode cM_system 93 = .ok (.invokevirtual 522, 3) := by decide +kernel
theorem dM_system_96 : decode cM_system 96 = .ok (.ifCond .eq 14, 3) := by decide +kernel
theorem dM_system_99 : decode cM_system 99 = .ok (.aload_n 0, 1) := by decide +kernel
theorem dM_system_100 : decode cM_system 100 = .ok (.iload_n 2, 1) := by decide +kernel
theorem dM_system_101 : decode cM_system 101 = .ok (.invokevirtual 528, 3) := by decide +kernel
theorem dM_system_104 : decode cM_system 104 = .ok (.iinc 2 1, 3) := by decide +kernel
theorem dM_system_107 : decode cM_system 107 = .ok (.goto (-58), 3) := by decide +kernel
theorem dM_system_110 : decode cM_system 110 = .ok (.aload_n 0, 1) := by decide +kernel
theorem dM_system_111 : decode cM_system 111 = .ok (.iconst 2, 1) := by decide +kernel
theorem dM_system_112 : decode cM_system 112 = .ok (.invokevirtual 522, 3) := by decide +kernel
theorem dM_system_115 : decode cM_system 115 = .ok (.ifCond .eq 14, 3) := by decide +kernel
theorem dM_system_118 : decode cM_system 118 = .ok (.aload_n 0, 1) := by decide +kernel
theorem dM_system_119 : decode cM_system 119 = .ok (.iload_n 3, 1) := by decide +kernel
theorem dM_system_120 : decode cM_system 120 = .ok (.invokevirtual 531, 3) := by decide +kernel
theorem dM_system_123 : decode cM_system 123 = .ok (.iinc 3 1, 3) := by decide +kernel
theorem dM_system_126 : decode cM_system 126 = .ok (.goto (-77), 3) := by decide +kernel
theorem dM_system_129 : decode cM_system 129 = .ok (.aload_n 0, 1) := by decide +kernel
theorem dM_system_130 : decode cM_system 130 = .ok (.invokevirtual 474, 3) := by decide +kernel
theorem dM_system_133 : decode cM_system 133 = .ok (.goto (-84), 3) := by decide +kernel
theorem dM_system_136 : decode cM_system 136 = .ok (.return_, 1) := by decide +kernel
theorem dM_parse_0 : decode cM_parse 0 = .ok (.aload_n 0, 1) := by decide +kernel
theorem dM_parse_1 : decode cM_parse 1 = .ok (.iconst 0, 1) := by decide +kernel
theorem dM_parse_2 : decode cM_parse 2 = .ok (.putfield 489, 3) := by decide +kernel
theorem dM_parse_5 : decode cM_parse 5 = .ok (.aload_n 0, 1) := by decide +kernel
theorem dM_parse_6 : decode cM_parse 6 = .ok (.iconst 0, 1) := by decide +kernel
theorem dM_parse_7 : decode cM_parse 7 = .ok (.putfield 492, 3) := by decide +kernel
theorem dM_parse_10 : decode cM_parse 10 = .ok (.aload_n 0, 1) := by decide +kernel
theorem dM_parse_11 : decode cM_parse 11 = .ok (.iconst 0, 1) := by decide +kernel
theorem dM_parse_12 : decode cM_parse 12 = .ok (.putfield 495, 3) := by decide +kernel
theorem dM_parse_15 : decode cM_parse 15 = .ok (.aload_n 0, 1) := by decide +kernel
theorem dM_parse_16 : decode cM_parse 16 = .ok (.iconst 0, 1) := by decide +kernel
theorem dM_parse_17 : decode cM_parse 17 = .ok (.putfield 498, 3) := by decide +kernel
theorem dM_parse_20 : decode cM_parse 20 = .ok (.aload_n 0, 1) := by decide +kernel
theorem dM_parse_21 : decode cM_parse 21 = .ok (.iconst 0, 1) := by decide +kernel
theorem dM_parse_22 : decode cM_parse 22 = .ok (.putfield 444, 3) := by decide +kernel
theorem dM_parse_25 : decode cM_parse 25 = .ok (.aload_n 0, 1) := by decide +kernel
theorem dM_parse_26 : decode cM_parse 26 = .ok (.iconst 0, 1) := by decide +kernel
theorem dM_parse_27 : decode cM_parse 27 = .ok (.putfield 457, 3) := by decide +kernel
theorem dM_parse_30 : decode cM_parse 30 = .ok (.aload_n 0, 1) := by decide +kernel
theorem dM_parse_31 : decode cM_parse 31 = .ok (.invokevirtual 801, 3) := by decide +kernel
theorem dM_parse_34 : decode cM_parse 34 = .ok (.aload_n 0, 1) := by decide +kernel
theorem dM_parse_35 : decode cM_parse 35 = .ok (.invokevirtual 804, 3) := by decide +kernel
theorem dM_parse_38 : decode cM_parse 38 = .ok (.aload_n 0, 1) := by decide +kernel
theorem dM_parse_39 : decode cM_parse 39 = .ok (.getfield 444, 3) := by decide +kernel
theorem dM_parse_42 : decode cM_parse 42 = .ok (.ifCond .le 5, 3) := by decide +kernel
theorem dM_parse_45 : decode cM_parse 45 = .ok (.iconst 0, 1) := by decide +kernel
theorem dM_parse_46 : decode cM_parse 46 = .ok (.ireturn, 1) := by decide +kernel
theorem dM_parse_47 : decode cM_parse 47 = .ok (.aload_n 0, 1) := by decide +kernel
theorem dM_parse_48 : decode cM_parse 48 = .ok (.invokevirtual 807, 3) := by decide +kernel
theorem dM_parse_51 : decode cM_parse 51 = .ok (.aload_n 0, 1) := by decide +kernel
theorem dM_parse_52 : decode cM_parse 52 = .ok (.iconst 1, 1) := by decide +kernel
theorem dM_parse_53 : decode cM_parse 53 = .ok (.putfield 457, 3) := by decide +kernel
theorem dM_parse_56 : decode cM_parse 56 = .ok (.aload_n 0, 1) := by decide +kernel
theorem dM_parse_57 : decode cM_parse 57 = .ok (.invokevirtual 804, 3) := by decide +kernel
theorem dM_parse_60 : decode cM_parse 60 = .ok (.aload_n 0, 1) := by decide +kernel
theorem dM_parse_61 : decode cM_parse 61 = .ok (.iconst 0, 1) := by decide +kernel
theorem dM_parse_62 : decode cM_parse 62 = .ok (.putfield 457, 3) := by decide +kernel
theorem dM_parse_65 : decode cM_parse 65 = .ok (.aload_n 0, 1) := by decide +kernel
theorem dM_parse_66 : decode cM_parse 66 = .ok (.getfield 444, 3) := by decide +kernel
theorem dM_parse_69 : decode cM_parse 69 = .ok (.ifCond .ne 7, 3) := by decide +kernel
theorem dM_parse_72 : decode cM_parse 72 = .ok (.iconst 1, 1) := by decide +kernel
theorem dM_parse_73 : decode cM_parse 73 = .ok (.goto 4, 3) := by decide +kernel
theorem dM_parse_76 : decode cM_parse 76 = .ok (.iconst 0, 1) := by decide +kernel
theorem dM_parse_77 : decode cM_parse 77 = .ok (.ireturn, 1) := by decide +kernel
theorem dM_load_0 : decode cM_load 0 = .ok (.iload_n 1, 1) := by decide +kernel
theorem dM_load_1 : decode cM_load 1 = .ok (.ifCond .lt 11, 3) := by decide +kernel
theorem dM_load_4 : decode cM_load 4 = .ok (.iload_n 1, 1) := by decide +kernel
theorem dM_load_5 : decode cM_load 5 = .ok (.aload_n 0, 1) := by decide +kernel
theorem dM_load_6 : decode cM_load 6 = .ok (.getfield 402, 3) := by decide +kernel
theorem dM_load_9 : decode cM_load 9 = .ok (.if_icmp .le 6, 3) := by decide +kernel
theorem dM_load_12 : decode cM_load 12 = .ok (.bipush (-2), 2) := by decide +kernel
theorem dM_load_14 : decode cM_load 14 = .ok (.ireturn, 1) := by decide +kernel
theorem dM_load_15 : decode cM_load 15 = .ok (.aload_n 0, 1) := by decide +kernel
theorem dM_load_16 : decode cM_load 16 = .ok (.iload_n 1, 1) := by decide +kernel
theorem dM_load_17 : decode cM_load 17 = .ok (.invokevirtual 810, 3) := by decide +kernel
theorem dM_load_20 : decode cM_load 20 = .ok (.aload_n 0, 1) := by decide +kernel
theorem dM_load_21 : decode cM_load 21 = .ok (.invokevirtual 813, 3) := by decide +kernel
theorem dM_load_24 : decode cM_load 24 = .ok (.ifCond .eq 54, 3) := by decide +kernel
theorem dM_load_27 : decode cM_load 27 = .ok (.iconst 0, 1) := by decide +kernel
theorem dM_load_28 : decode cM_load 28 = .ok (.istore_n 2, 1) := by decide +kernel
theorem dM_load_29 : decode cM_load 29 = .ok (.iload_n 2, 1) := by decide +kernel
theorem dM_load_30 : decode cM_load 30 = .ok (.iload_n 1, 1) := by decide +kernel
theorem dM_load_31 : decode cM_load 31 = .ok (.if_icmp .ge 21, 3) := by decide +kernel
theorem dM_load_34 : decode cM_load 34 = .ok (.aload_n 0, 1) := by decide +kernel
theorem dM_load_35 : decode cM_load 35 = .ok (.getfield 16, 3) := by decide +kernel
theorem dM_load_38 : decode cM_load 38 = .ok (.iload_n 2, 1) := by decide +kernel
theorem dM_load_39 : decode cM_load 39 = .ok (.aload_n 0, 1) := by decide +kernel
theorem dM_load_40 : decode cM_load 40 = .ok (.getfield 13, 3) := by decide +kernel
theorem dM_load_43 : decode cM_load 43 = .ok (.iload_n 2, 1) := by decide +kernel
theorem dM_load_44 : decode cM_load 44 = .ok (.baload, 1) := by decide +kernel
theorem dM_load_45 : decode cM_load 45 = .ok (.bastore, 1) := by decide +kernel
theorem dM_load_46 : decode cM_load 46 = .ok (.iinc 2 1, 3) := by decide +kernel
theorem dM_load_49 : decode cM_load 49 = .ok (.goto (-20), 3) := by decide +kernel
theorem dM_load_52 : decode cM_load 52 = .ok (.aload_n 0, 1) := by decide +kernel
theorem dM_load_53 : decode cM_load 53 = .ok (.iload_n 1, 1) := by decide +kernel
theorem dM_load_54 : decode cM_load 54 = .ok (.putfield 816, 3) := by decide +kernel
theorem dM_load_57 : decode cM_load 57 = .ok (.aload_n 0, 1) := by decide +kernel
theorem dM_load_58 : decode cM_load 58 = .ok (.iconst 1, 1) := by decide +kernel
theorem dM_load_59 : decode cM_load 59 = .ok (.putfield 819, 3) := by decide +kernel
theorem dM_load_62 : decode cM_load 62 = .ok (.aload_n 0, 1) := by decide +kernel
theorem dM_load_63 : decode cM_load 63 = .ok (.iconst 0, 1) := by decide +kernel
theorem dM_load_64 : decode cM_load 64 = .ok (.putfield 822, 3) := by decide +kernel
theorem dM_load_67 : decode cM_load 67 = .ok (.aload_n 0, 1) := by decide +kernel
theorem dM_load_68 : decode cM_load 68 = .ok (.iconst 0, 1) := by decide +kernel
theorem dM_load_69 : decode cM_load 69 = .ok (.putfield 825, 3) := by decide +kernel
theorem dM_load_72 : decode cM_load 72 = .ok (.aload_n 0, 1) := by decide +kernel
theorem dM_load_73 : decode cM_load 73 = .ok (.invokevirtual 828, 3) := by decide +kernel
theorem dM_load_76 : decode cM_load 76 = .ok (.iconst 0, 1) := by decide +kernel
theorem dM_load_77 : decode cM_load 77 = .ok (.ireturn, 1) := by decide +kernel
theorem dM_load_78 : decode cM_load 78 = .ok (.aload_n 0, 1) := by decide +kernel
theorem dM_load_79 : decode cM_load 79 = .ok (.aload_n 0, 1) := by decide +kernel
theorem dM_load_80 : decode cM_load 80 = .ok (.getfield 447, 3) := by decide +kernel
theorem dM_load_83 : decode cM_load 83 = .ok (.putfield 283, 3) := by decide +kernel
theorem dM_load_86 : decode cM_load 86 = .ok (.aload_n 0, 1) := by decide +kernel
theorem dM_load_87 : decode cM_load 87 = .ok (.getfield 444, 3) := by decide +kernel
theorem dM_load_90 : decode cM_load 90 = .ok (.istore_n 2, 1) := by decide +kernel
theorem dM_load_91 : decode cM_load 91 = .ok (.aload_n 0, 1) := by decide +kernel
theorem dM_load_92 : decode cM_load 92 = .ok (.getfield 819, 3) := by decide +kernel
theorem dM_load_95 : decode cM_load 95 = .ok (.ifCond .eq 44, 3) := by decide +kernel
theorem dM_load_98 : decode cM_load 98 = .ok (.iconst 0, 1) := by decide +kernel
theorem dM_load_99 : decode cM_load 99 = .ok (.istore_n 3, 1) := by decide +kernel
theorem dM_load_100 : decode cM_load 100 = .ok (.iload_n 3, 1) := by decide +kernel
theorem dM_load_101 : decode cM_load 101 = .ok (.aload_n 0, 1) := by decide +kernel
theorem dM_load_102 : decode cM_load 102 = .ok (.getfield 816, 3) := by decide +kernel
theorem dM_load_105 : decode cM_load 105 = .ok (.if_icmp .ge 21, 3) := by decide +kernel
theorem dM_load_108 : decode cM_load 108 = .ok (.aload_n 0, 1) := by decide +kernel
theorem dM_load_109 : decode cM_load 109 = .ok (.getfield 13, 3) := by decide +kernel
theorem dM_load_112 : decode cM_load 112 = .ok (.iload_n 3, 1) := by decide +kernel
theorem dM_load_113 : decode cM_load 113 = .ok (.aload_n 0, 1) := by decide +kernel
theorem dM_load_114 : decode cM_load 114 = .ok (.getfield 16, 3) := by decide +kernel
theorem dM_load_117 : decode cM_load 117 = .ok (.iload_n 3, 1) := by decide +kernel
theorem dM_load_118 : decode cM_load 118 = .ok (.baload, 1) := by decide +kernel
theorem dM_load_119 : decode cM_load 119 = .ok (.bastore, 1) := by decide +kernel
theorem dM_load_120 : decode cM_load 120 = .ok (.iinc 3 1, 3) := by decide +kernel
theorem dM_load_123 : decode cM_load 123 = .ok (.goto (-23), 3) := by decide +kernel
theorem dM_load_126 : decode cM_load 126 = .ok (.aload_n 0, 1) := by decide +kernel
theorem dM_load_127 : decode cM_load 127 = .ok (.aload_n 0, 1) := by decide +kernel
theorem dM_load_128 : decode cM_load 128 = .ok (.getfield 816, 3) := by decide +kernel
theorem dM_load_131 : decode cM_load 131 = .ok (.putfield 409, 3) := by decide +kernel
theorem dM_load_134 : decode cM_load 134 = .ok (.aload_n 0, 1) := by decide +kernel
theorem dM_load_135 : decode cM_load 135 = .ok (.invokevirtual 813, 3) := by decide +kernel
theorem dM_load_138 : decode cM_load 138 = .ok (.pop, 1) := by decide +kernel
theorem dM_load_139 : decode cM_load 139 = .ok (.iload_n 2, 1) := by decide +kernel
theorem dM_load_140 : decode cM_load 140 = .ok (.ireturn, 1) := by decide +kernel
theorem dM_place_0 : decode cM_place 0 = .ok (.aload_n 0, 1) := by decide +kernel
theorem dM_place_1 : decode cM_place 1 = .ok (.getfield 283, 3) := by decide +kernel
theorem dM_place_4 : decode cM_place 4 = .ok (.ireturn, 1) := by decide +kernel
theorem dM_warning_0 : decode cM_warning 0 = .ok (.iload_n 1, 1) := by decide +kernel
theorem dM_warning_1 : decode cM_warning 1 = .ok (.ifCond .lt 20, 3) := by decide +kernel
theorem dM_warning_4 : decode cM_warning 4 = .ok (.iload_n 1, 1) := by decide +kernel
theorem dM_warning_5 : decode cM_warning 5 = .ok (.aload_n 0, 1) := by decide +kernel
theorem dM_warning_6 : decode cM_warning 6 = .ok (.getfield 831, 3) := by decide +kernel
theorem dM_warning_9 : decode cM_warning 9 = .ok (.if_icmp .ge 12, 3) := by decide +kernel
theorem dM_warning_12 : decode cM_warning 12 = .ok (.iload_n 2, 1) := by decide +kernel
theorem dM_warning_13 : decode cM_warning 13 = .ok (.ifCond .lt 8, 3) := by decide +kernel
theorem dM_warning_16 : decode cM_warning 16 = .ok (.iload_n 2, 1) := by decide +kernel
theorem dM_warning_17 : decode cM_warning 17 = .ok (.iconst 1, 1) := by decide +kernel
theorem dM_warning_18 : decode cM_warning 18 = .ok (.if_icmp .le 5, 3) := by decide +kernel
theorem dM_warning_21 : decode cM_warning 21 = .ok (.iconst (-1), 1) := by decide +kernel
theorem dM_warning_22 : decode cM_warning 22 = .ok (.ireturn, 1) := by decide +kernel
theorem dM_warning_23 : decode cM_warning 23 = .ok (.iload_n 2, 1) := by decide +kernel
theorem dM_warning_24 : decode cM_warning 24 = .ok (.ifCond .ne 12, 3) := by decide +kernel
theorem dM_warning_27 : decode cM_warning 27 = .ok (.aload_n 0, 1) := by decide +kernel
theorem dM_warning_28 : decode cM_warning 28 = .ok (.getfield 287, 3) := by decide +kernel
theorem dM_warning_31 : decode cM_warning 31 = .ok (.iload_n 1, 1) := by decide +kernel
theorem dM_warning_32 : decode cM_warning 32 = .ok (.iaload, 1) := by decide +kernel
theorem dM_warning_33 : decode cM_warning 33 = .ok (.goto 9, 3) := by decide +kernel
theorem dM_warning_36 : decode cM_warning 36 = .ok (.aload_n 0, 1) := by decide +kernel
theorem dM_warning_37 : decode cM_warning 37 = .ok (.getfield 290, 3) := by decide +kernel
theorem dM_warning_40 : decode cM_warning 40 = .ok (.iload_n 1, 1) := by decide +kernel
theorem dM_warning_41 : decode cM_warning 41 = .ok (.iaload, 1) := by decide +kernel
theorem dM_warning_42 : decode cM_warning 42 = .ok (.ireturn, 1) := by decide +kernel
theorem dM_begin_0 : decode cM_begin 0 = .ok (.aload_n 0, 1) := by decide +kernel
theorem dM_begin_1 : decode cM_begin 1 = .ok (.getfield 819, 3) := by decide +kernel
theorem dM_begin_4 : decode cM_begin 4 = .ok (.ifCond .ne 5, 3) := by decide +kernel
theorem dM_begin_7 : decode cM_begin 7 = .ok (.iconst (-1), 1) := by decide +kernel
theorem dM_begin_8 : decode cM_begin 8 = .ok (.ireturn, 1) := by decide +kernel
theorem dM_begin_9 : decode cM_begin 9 = .ok (.iconst 0, 1) := by decide +kernel
theorem dM_begin_10 : decode cM_begin 10 = .ok (.istore_n 2, 1) := by decide +kernel
theorem dM_begin_11 : decode cM_begin 11 = .ok (.iload_n 2, 1) := by decide +kernel
theorem dM_begin_12 : decode cM_begin 12 = .ok (.sipush 1104, 3) := by decide +kernel
theorem dM_begin_15 : decode cM_begin 15 = .ok (.if_icmp .ge 16, 3) := by decide +kernel
theorem dM_begin_18 : decode cM_begin 18 = .ok (.aload_n 0, 1) := by decide +kernel
theorem dM_begin_19 : decode cM_begin 19 = .ok (.getfield 299, 3) := by decide +kernel
theorem dM_begin_22 : decode cM_begin 22 = .ok (.iload_n 2, 1) := by decide +kernel
theorem dM_begin_23 : decode cM_begin 23 = .ok (.iconst 0, 1) := by decide +kernel
theorem dM_begin_24 : decode cM_begin 24 = .ok (.iastore, 1) := by decide +kernel
theorem dM_begin_25 : decode cM_begin 25 = .ok (.iinc 2 1, 3) := by decide +kernel
theorem dM_begin_28 : decode cM_begin 28 = .ok (.goto (-17), 3) := by decide +kernel
theorem dM_begin_31 : decode cM_begin 31 = .ok (.aload_n 0, 1) := by decide +kernel
theorem dM_begin_32 : decode cM_begin 32 = .ok (.getfield 299, 3) := by decide +kernel
theorem dM_begin_35 : decode cM_begin 35 = .ok (.iconst 1, 1) := by decide +kernel
theorem dM_begin_36 : decode cM_begin 36 = .ok (.iconst 1, 1) := by decide +kernel
theorem dM_begin_37 : decode cM_begin 37 = .ok (.iastore, 1) := by decide +kernel
theorem dM_begin_38 : decode cM_begin 38 = .ok (.aload_n 0, 1) := by decide +kernel
theorem dM_begin_39 : decode cM_begin 39 = .ok (.iconst 1, 1) := by decide +kernel
theorem dM_begin_40 : decode cM_begin 40 = .ok (.putfield 822, 3) := by decide +kernel
theorem dM_begin_43 : decode cM_begin 43 = .ok (.aload_n 0, 1) := by decide +kernel
theorem dM_begin_44 : decode cM_begin 44 = .ok (.iconst 0, 1) := by decide +kernel
theorem dM_begin_45 : decode cM_begin 45 = .ok (.putfield 843, 3) := by decide +kernel
theorem dM_begin_48 : decode cM_begin 48 = .ok (.aload_n 0, 1) := by decide +kernel
theorem dM_begin_49 : decode cM_begin 49 = .ok (.iconst 0, 1) := by decide +kernel
theorem dM_begin_50 : decode cM_begin 50 = .ok (.putfield 877, 3) := by decide +kernel
theorem dM_begin_53 : decode cM_begin 53 = .ok (.aload_n 0, 1) := by decide +kernel
theorem dM_begin_54 : decode cM_begin 54 = .ok (.iload_n 1, 1) := by decide +kernel
theorem dM_begin_55 : decode cM_begin 55 = .ok (.putfield 895, 3) := by decide +kernel
theorem dM_begin_58 : decode cM_begin 58 = .ok (.aload_n 0, 1) := by decide +kernel
theorem dM_begin_59 : decode cM_begin 59 = .ok (.iconst 0, 1) := by decide +kernel
theorem dM_begin_60 : decode cM_begin 60 = .ok (.putfield 1008, 3) := by decide +kernel
theorem dM_begin_63 : decode cM_begin 63 = .ok (.aload_n 0, 1) := by decide +kernel
theorem dM_begin_64 : decode cM_begin 64 = .ok (.iconst 0, 1) := by decide +kernel
theorem dM_begin_65 : decode cM_begin 65 = .ok (.putfield 907, 3) := by decide +kernel
theorem dM_begin_68 : decode cM_begin 68 = .ok (.aload_n 0, 1) := by decide +kernel
theorem dM_begin_69 : decode cM_begin 69 = .ok (.iconst 0, 1) := by decide +kernel
theorem dM_begin_70 : decode cM_begin 70 = .ok (.putfield 858, 3) := by decide +kernel
theorem dM_begin_73 : decode cM_begin 73 = .ok (.aload_n 0, 1) := by decide +kernel
theorem dM_begin_74 : decode cM_begin 74 = .ok (.iconst 0, 1) := by decide +kernel
theorem dM_begin_75 : decode cM_begin 75 = .ok (.putfield 913, 3) := by decide +kernel
theorem dM_begin_78 : decode cM_begin 78 = .ok (.aload_n 0, 1) := by decide +kernel
theorem dM_begin_79 : decode cM_begin 79 = .ok (.iconst 0, 1) := by decide +kernel
theorem dM_begin_80 : decode cM_begin 80 = .ok (.putfield 916, 3) := by decide +kernel
theorem dM_begin_83 : decode cM_begin 83 = .ok (.aload_n 0, 1) := by decide +kernel
theorem dM_begin_84 : decode cM_begin 84 = .ok (.iconst 0, 1) := by decide +kernel
theorem dM_begin_85 : decode cM_begin 85 = .ok (.putfield 919, 3) := by decide +kernel
theorem dM_begin_88 : decode cM_begin 88 = .ok (.aload_n 0, 1) := by decide +kernel
theorem dM_begin_89 : decode cM_begin 89 = .ok (.iconst 0, 1) := by decide +kernel
theorem dM_begin_90 : decode cM_begin 90 = .ok (.putfield 1011, 3) := by decide +kernel
theorem dM_begin_93 : decode cM_begin 93 = .ok (.aload_n 0, 1) := by decide +kernel
theorem dM_begin_94 : decode cM_begin 94 = .ok (.iconst 0, 1) := by decide +kernel
theorem dM_begin_95 : decode cM_begin 95 = .ok (.putfield 883, 3) := by decide +kernel
theorem dM_begin_98 : decode cM_begin 98 = .ok (.aload_n 0, 1) := by decide +kernel
theorem dM_begin_99 : decode cM_begin 99 = .ok (.iconst 0, 1) := by decide +kernel
theorem dM_begin_100 : decode cM_begin 100 = .ok (.putfield 874, 3) := by decide +kernel
theorem dM_begin_103 : decode cM_begin 103 = .ok (.aload_n 0, 1) := by decide +kernel
theorem dM_begin_104 : decode cM_begin 104 = .ok (.iconst 0, 1) := by decide +kernel
theorem dM_begin_105 : decode cM_begin 105 = .ok (.putfield 880, 3) := by decide +kernel
theorem dM_begin_108 : decode cM_begin 108 = .ok (.aload_n 0, 1) := by decide +kernel
theorem dM_begin_109 : decode cM_begin 109 = .ok (.iconst 0, 1) := by decide +kernel
theorem dM_begin_110 : decode cM_begin 110 = .ok (.putfield 849, 3) := by decide +kernel
theorem dM_begin_113 : decode cM_begin 113 = .ok (.aload_n 0, 1) := by decide +kernel
theorem dM_begin_114 : decode cM_begin 114 = .ok (.iconst 0, 1) := by decide +kernel
theorem dM_begin_115 : decode cM_begin 115 = .ok (.putfield 846, 3) := by decide +kernel
theorem dM_begin_118 : decode cM_begin 118 = .ok (.aload_n 0, 1) := by decide +kernel
theorem dM_begin_119 : decode cM_begin 119 = .ok (.iconst 0, 1) := by decide +kernel
theorem dM_begin_120 : decode cM_begin 120 = .ok (.putfield 825, 3) := by decide +kernel
theorem dM_begin_123 : decode cM_begin 123 = .ok (.aload_n 0, 1) := by decide +kernel
theorem dM_begin_124 : decode cM_begin 124 = .ok (.iconst 0, 1) := by decide +kernel
theorem dM_begin_125 : decode cM_begin 125 = .ok (.putfield 1014, 3) := by decide +kernel
theorem dM_begin_128 : decode cM_begin 128 = .ok (.aload_n 0, 1) := by decide +kernel
theorem dM_begin_129 : decode cM_begin 129 = .ok (.iconst 0, 1) := by decide +kernel
theorem dM_begin_130 : decode cM_begin 130 = .ok (.putfield 1017, 3) := by decide +kernel
theorem dM_begin_133 : decode cM_begin 133 = .ok (.iconst 0, 1) := by decide +kernel
theorem dM_begin_134 : decode cM_begin 134 = .ok (.istore_n 2, 1) := by decide +kernel
theorem dM_begin_135 : decode cM_begin 135 = .ok (.iload_n 2, 1) := by decide +kernel
theorem dM_begin_136 : decode cM_begin 136 = .ok (.aload_n 0, 1) := by decide +kernel
theorem dM_begin_137 : decode cM_begin 137 = .ok (.getfield 495, 3) := by decide +kernel
theorem dM_begin_140 : decode cM_begin 140 = .ok (.if_icmp .ge 45, 3) := by decide +kernel
theorem dM_begin_143 : decode cM_begin 143 = .ok (.iconst 0, 1) := by decide +kernel
theorem dM_begin_144 : decode cM_begin 144 = .ok (.istore_n 3, 1) := by decide +kernel
theorem dM_begin_145 : decode cM_begin 145 = .ok (.iload_n 3, 1) := by decide +kernel
theorem dM_begin_146 : decode cM_begin 146 = .ok (.aload_n 0, 1) := by decide +kernel
theorem dM_begin_147 : decode cM_begin 147 = .ok (.getfield 82, 3) := by decide +kernel
theorem dM_begin_150 : decode cM_begin 150 = .ok (.iload_n 2, 1) := by decide +kernel
theorem dM_begin_151 : decode cM_begin 151 = .ok (.iaload, 1) := by decide +kernel
theorem dM_begin_152 : decode cM_begin 152 = .ok (.if_icmp .ge 27, 3) := by decide +kernel
theorem dM_begin_155 : decode cM_begin 155 = .ok (.aload_n 0, 1) := by decide +kernel
theorem dM_begin_156 : decode cM_begin 156 = .ok (.getfield 299, 3) := by decide +kernel
theorem dM_begin_159 : decode cM_begin 159 = .ok (.iconst 0, 1) := by decide +kernel
theorem dM_begin_160 : decode cM_begin 160 = .ok (.iaload, 1) := by decide +kernel
theorem dM_begin_161 : decode cM_begin 161 = .ok (.bipush 12, 2) := by decide +kernel
theorem dM_begin_163 : decode cM_begin 163 = .ok (.if_icmp .ge 16, 3) := by decide +kernel
theorem dM_begin_166 : decode cM_begin 166 = .ok (.aload_n 0, 1) := by decide +kernel
theorem dM_begin_167 : decode cM_begin 167 = .ok (.iload_n 2, 1) := by decide +kernel
theorem dM_begin_168 : decode cM_begin 168 = .ok (.iconst 0, 1) := by decide +kernel
theorem dM_begin_169 : decode cM_begin 169 = .ok (.invokevirtual 977, 3) := by decide +kernel
theorem dM_begin_172 : decode cM_begin 172 = .ok (.pop, 1) := by decide +kernel
theorem dM_begin_173 : decode cM_begin 173 = .ok (.iinc 3 1, 3) := by decide +kernel
theorem dM_begin_176 : decode cM_begin 176 = .ok (.goto (-31), 3) := by decide +kernel
theorem dM_begin_179 : decode cM_begin 179 = .ok (.iinc 2 1, 3) := by decide +kernel
theorem dM_begin_182 : decode cM_begin 182 = .ok (.goto (-47), 3) := by decide +kernel
theorem dM_begin_185 : decode cM_begin 185 = .ok (.aload_n 0, 1) := by decide +kernel
theorem dM_begin_186 : decode cM_begin 186 = .ok (.getfield 299, 3) := by decide +kernel
theorem dM_begin_189 : decode cM_begin 189 = .ok (.iconst 0, 1) := by decide +kernel
theorem dM_begin_190 : decode cM_begin 190 = .ok (.iaload, 1) := by decide +kernel
theorem dM_begin_191 : decode cM_begin 191 = .ok (.ireturn, 1) := by decide +kernel
theorem dM_run_0 : decode cM_run 0 = .ok (.aload_n 0, 1) := by decide +kernel
theorem dM_run_1 : decode cM_run 1 = .ok (.getfield 822, 3) := by decide +kernel
theorem dM_run_4 : decode cM_run 4 = .ok (.ifCond .eq 15, 3) := by decide +kernel
theorem dM_run_7 : decode cM_run 7 = .ok (.iload_n 1, 1) := by decide +kernel
theorem dM_run_8 : decode cM_run 8 = .ok (.iconst 1, 1) := by decide +kernel
theorem dM_run_9 : decode cM_run 9 = .ok (.if_icmp .lt 10, 3) := by decide +kernel
theorem dM_run_12 : decode cM_run 12 = .ok (.iload_n 1, 1) := by decide +kernel
theorem dM_run_13 : decode cM_run 13 = .ok (.sipush 1000, 3) := by decide +kernel
theorem dM_run_16 : decode cM_run 16 = .ok (.if_icmp .le 5, 3) := by decide +kernel
theorem dM_run_19 : decode cM_run 19 = .ok (.iconst (-1), 1) := by decide +kernel
theorem dM_run_20 : decode cM_run 20 = .ok (.ireturn, 1) := by decide +kernel
theorem dM_run_21 : decode cM_run 21 = .ok (.iconst 0, 1) := by decide +kernel
theorem dM_run_22 : decode cM_run 22 = .ok (.istore_n 2, 1) := by decide +kernel
theorem dM_run_23 : decode cM_run 23 = .ok (.iload_n 2, 1) := by decide +kernel
theorem dM_run_24 : decode cM_run 24 = .ok (.iload_n 1, 1) := by decide +kernel
theorem dM_run_25 : decode cM_run 25 = .ok (.if_icmp .ge 77, 3) := by decide +kernel
theorem dM_run_28 : decode cM_run 28 = .ok (.aload_n 0, 1) := by decide +kernel
theorem dM_run_29 : decode cM_run 29 = .ok (.invokevirtual 1020, 3) := by decide +kernel
theorem dM_run_32 : decode cM_run 32 = .ok (.aload_n 0, 1) := by decide +kernel
theorem dM_run_33 : decode cM_run 33 = .ok (.invokevirtual 1023, 3) := by decide +kernel
theorem dM_run_36 : decode cM_run 36 = .ok (.istore_n 3, 1) := by decide +kernel
theorem dM_run_37 : decode cM_run 37 = .ok (.iload_n 3, 1) := by decide +kernel
theorem dM_run_38 : decode cM_run 38 = .ok (.ifCond .lt 42, 3) := by decide +kernel
theorem dM_run_41 : decode cM_run 41 = .ok (.aload_n 0, 1) := by decide +kernel
theorem dM_run_42 : decode cM_run 42 = .ok (.aload_n 0, 1) := by decide +kernel
theorem dM_run_43 : decode cM_run 43 = .ok (.getfield 299, 3) := by decide +kernel
theorem dM_run_46 : decode cM_run 46 = .ok (.iload_n 3, 1) := by decide +kernel
theorem dM_run_47 : decode cM_run 47 = .ok (.invokestatic 840, 3) := by decide +kernel
theorem dM_run_50 : decode cM_run 50 = .ok (.iaload, 1) := by decide +kernel
theorem dM_run_51 : decode cM_run 51 = .ok (.putfield 1008, 3) := by decide +kernel
theorem dM_run_54 : decode cM_run 54 = .ok (.aload_n 0, 1) := by decide +kernel
theorem dM_run_55 : decode cM_run 55 = .ok (.iload_n 3, 1) := by decide +kernel
theorem dM_run_56 : decode cM_run 56 = .ok (.aload_n 0, 1) := by decide +kernel
theorem dM_run_57 : decode cM_run 57 = .ok (.iload_n 3, 1) := by decide +kernel
theorem dM_run_58 : decode cM_run 58 = .ok (.invokevirtual 1026, 3) := by decide +kernel
theorem dM_run_61 : decode cM_run 61 = .ok (.invokevirtual 1029, 3) := by decide +kernel
theorem dM_run_64 : decode cM_run 64 = .ok (.aload_n 0, 1) := by decide +kernel
theorem dM_run_65 : decode cM_run 65 = .ok (.dup, 1) := by decide +kernel
theorem dM_run_66 : decode cM_run 66 = .ok (.getfield 1011, 3) := by decide +kernel
theorem dM_run_69 : decode cM_run 69 = .ok (.iconst 1, 1) := by decide +kernel
theorem dM_run_70 : decode cM_run 70 = .ok (.iadd, 1) := by decide +kernel
theorem dM_run_71 : decode cM_run 71 = .ok (.putfield 1011, 3) := by decide +kernel
theorem dM_run_74 : decode cM_run 74 = .ok (.iinc 2 1, 3) := by decide +kernel
theorem dM_run_77 : decode cM_run 77 = .ok (.goto 22, 3) := by decide +kernel
theorem dM_run_80 : decode cM_run 80 = .ok (.aload_n 0, 1) := by decide +kernel
theorem dM_run_81 : decode cM_run 81 = .ok (.invokevirtual 1032, 3) := by decide +kernel
theorem dM_run_84 : decode cM_run 84 = .ok (.istore 4, 2) := by decide +kernel
theorem dM_run_86 : decode cM_run 86 = .ok (.iload 4, 2) := by decide +kernel
theorem dM_run_88 : decode cM_run 88 = .ok (.ifCond .ge 5, 3) := by decide +kernel
theorem dM_run_91 : decode cM_run 91 = .ok (.iload_n 2, 1) := by decide +kernel
theorem dM_run_92 : decode cM_run 92 = .ok (.ireturn, 1) := by decide +kernel
theorem dM_run_93 : decode cM_run 93 = .ok (.aload_n 0, 1) := by decide +kernel
theorem dM_run_94 : decode cM_run 94 = .ok (.iload 4, 2) := by decide +kernel
theorem dM_run_96 : decode cM_run 96 = .ok (.putfield 877, 3) := by decide +kernel
theorem dM_run_99 : decode cM_run 99 = .ok (.goto (-76), 3) := by decide +kernel
theorem dM_run_102 : decode cM_run 102 = .ok (.iload_n 2, 1) := by decide +kernel
theorem dM_run_103 : decode cM_run 103 = .ok (.ireturn, 1) := by decide +kernel
theorem dM_go_0 : decode cM_go 0 = .ok (.aload_n 0, 1) := by decide +kernel
theorem dM_go_1 : decode cM_go 1 = .ok (.getfield 822, 3) := by decide +kernel
theorem dM_go_4 : decode cM_go 4 = .ok (.ifCond .ne 5, 3) := by decide +kernel
theorem dM_go_7 : decode cM_go 7 = .ok (.iconst (-1), 1) := by decide +kernel
theorem dM_go_8 : decode cM_go 8 = .ok (.ireturn, 1) := by decide +kernel
theorem dM_go_9 : decode cM_go 9 = .ok (.aload_n 0, 1) := by decide +kernel
theorem dM_go_10 : decode cM_go 10 = .ok (.invokevirtual 1020, 3) := by decide +kernel
theorem dM_go_13 : decode cM_go 13 = .ok (.aload_n 0, 1) := by decide +kernel
theorem dM_go_14 : decode cM_go 14 = .ok (.iload_n 1, 1) := by decide +kernel
theorem dM_go_15 : decode cM_go 15 = .ok (.invokevirtual 864, 3) := by decide +kernel
theorem dM_go_18 : decode cM_go 18 = .ok (.istore_n 2, 1) := by decide +kernel
theorem dM_go_19 : decode cM_go 19 = .ok (.iload_n 1, 1) := by decide +kernel
theorem dM_go_20 : decode cM_go 20 = .ok (.iconst 1, 1) := by decide +kernel
theorem dM_go_21 : decode cM_go 21 = .ok (.if_icmp .lt 7, 3) := by decide +kernel
theorem dM_go_24 : decode cM_go 24 = .ok (.iload_n 2, 1) := by decide +kernel
theorem dM_go_25 : decode cM_go 25 = .ok (.ifCond .ge 5, 3) := by decide +kernel
theorem dM_go_28 : decode cM_go 28 = .ok (.iconst 0, 1) := by decide +kernel
theorem dM_go_29 : decode cM_go 29 = .ok (.ireturn, 1) := by decide +kernel
theorem dM_go_30 : decode cM_go 30 = .ok (.aload_n 0, 1) := by decide +kernel
theorem dM_go_31 : decode cM_go 31 = .ok (.iload_n 2, 1) := by decide +kernel
theorem dM_go_32 : decode cM_go 32 = .ok (.invokevirtual 1026, 3) := by decide +kernel
theorem dM_go_35 : decode cM_go 35 = .ok (.istore_n 3, 1) := by decide +kernel
theorem dM_go_36 : decode cM_go 36 = .ok (.iload_n 3, 1) := by decide +kernel
theorem dM_go_37 : decode cM_go 37 = .ok (.ifCond .ne 5, 3) := by decide +kernel
theorem dM_go_40 : decode cM_go 40 = .ok (.iconst 0, 1) := by decide +kernel
theorem dM_go_41 : decode cM_go 41 = .ok (.ireturn, 1) := by decide +kernel
theorem dM_go_42 : decode cM_go 42 = .ok (.aload_n 0, 1) := by decide +kernel
theorem dM_go_43 : decode cM_go 43 = .ok (.iload_n 1, 1) := by decide +kernel
theorem dM_go_44 : decode cM_go 44 = .ok (.putfield 1008, 3) := by decide +kernel
theorem dM_go_47 : decode cM_go 47 = .ok (.aload_n 0, 1) := by decide +kernel
theorem dM_go_48 : decode cM_go 48 = .ok (.iload_n 2, 1) := by decide +kernel
theorem dM_go_49 : decode cM_go 49 = .ok (.iload_n 3, 1) := by decide +kernel
theorem dM_go_50 : decode cM_go 50 = .ok (.invokevirtual 1029, 3) := by decide +kernel
theorem dM_go_53 : decode cM_go 53 = .ok (.aload_n 0, 1) := by decide +kernel
theorem dM_go_54 : decode cM_go 54 = .ok (.dup, 1) := by decide +kernel
theorem dM_go_55 : decode cM_go 55 = .ok (.getfield 1011, 3) := by decide +kernel
theorem dM_go_58 : decode cM_go 58 = .ok (.iconst 1, 1) := by decide +kernel
theorem dM_go_59 : decode cM_go 59 = .ok (.iadd, 1) := by decide +kernel
theorem dM_go_60 : decode cM_go 60 = .ok (.putfield 1011, 3) := by decide +kernel
theorem dM_go_63 : decode cM_go 63 = .ok (.iconst 1, 1) := by decide +kernel
theorem dM_go_64 : decode cM_go 64 = .ok (.ireturn, 1) := by decide +kernel
theorem dM_none_0 : decode cM_none 0 = .ok (.aload_n 0, 1) := by decide +kernel
theorem dM_none_1 : decode cM_none 1 = .ok (.getfield 822, 3) := by decide +kernel
theorem dM_none_4 : decode cM_none 4 = .ok (.ifCond .ne 5, 3) := by decide +kernel
theorem dM_none_7 : decode cM_none 7 = .ok (.iconst (-1), 1) := by decide +kernel
theorem dM_none_8 : decode cM_none 8 = .ok (.ireturn, 1) := by decide +kernel
theorem dM_none_9 : decode cM_none 9 = .ok (.aload_n 0, 1) := by decide +kernel
theorem dM_none_10 : decode cM_none 10 = .ok (.invokevirtual 1020, 3) := by decide +kernel
theorem dM_none_13 : decode cM_none 13 = .ok (.aload_n 0, 1) := by decide +kernel
theorem dM_none_14 : decode cM_none 14 = .ok (.iload_n 1, 1) := by decide +kernel
theorem dM_none_15 : decode cM_none 15 = .ok (.invokevirtual 864, 3) := by decide +kernel
theorem dM_none_18 : decode cM_none 18 = .ok (.istore_n 3, 1) := by decide +kernel
theorem dM_none_19 : decode cM_none 19 = .ok (.iload_n 1, 1) := by decide +kernel
theorem dM_none_20 : decode cM_none 20 = .ok (.iconst 1, 1) := by decide +kernel
theorem dM_none_21 : decode cM_none 21 = .ok (.if_icmp .lt 7, 3) := by decide +kernel
theorem dM_none_24 : decode cM_none 24 = .ok (.iload_n 3, 1) := by decide +kernel
theorem dM_none_25 : decode cM_none 25 = .ok (.ifCond .ge 7, 3) := by decide +kernel
theorem dM_none_28 : decode cM_none 28 = .ok (.iconst (-1), 1) := by decide +kernel
theorem dM_none_29 : decode cM_none 29 = .ok (.goto 9, 3) := by decide +kernel
theorem dM_none_32 : decode cM_none 32 = .ok (.aload_n 0, 1) := by decide +kernel
theorem dM_none_33 : decode cM_none 33 = .ok (.iload_n 3, 1) := by decide +kernel
theorem dM_none_34 : decode cM_none 34 = .ok (.iload_n 2, 1) := by decide +kernel
theorem dM_none_35 : decode cM_none 35 = .ok (.invokevirtual 1035, 3) := by decide +kernel
theorem dM_none_38 : decode cM_none 38 = .ok (.istore 4, 2) := by decide +kernel
theorem dM_none_40 : decode cM_none 40 = .ok (.iload 4, 2) := by decide +kernel
theorem dM_none_42 : decode cM_none 42 = .ok (.ifCond .ge 5, 3) := by decide +kernel
theorem dM_none_45 : decode cM_none 45 = .ok (.iconst 0, 1) := by decide +kernel
theorem dM_none_46 : decode cM_none 46 = .ok (.ireturn, 1) := by decide +kernel
theorem dM_none_47 : decode cM_none 47 = .ok (.aload_n 0, 1) := by decide +kernel
theorem dM_none_48 : decode cM_none 48 = .ok (.iload_n 3, 1) := by decide +kernel
theorem dM_none_49 : decode cM_none 49 = .ok (.iload 4, 2) := by decide +kernel
theorem dM_none_51 : decode cM_none 51 = .ok (.invokevirtual 1038, 3) := by decide +kernel
theorem dM_none_54 : decode cM_none 54 = .ok (.iconst 1, 1) := by decide +kernel
theorem dM_none_55 : decode cM_none 55 = .ok (.ireturn, 1) := by decide +kernel
theorem dM_wait_0 : decode cM_wait 0 = .ok (.aload_n 0, 1) := by decide +kernel
theorem dM_wait_1 : decode cM_wait 1 = .ok (.getfield 822, 3) := by decide +kernel
theorem dM_wait_4 : decode cM_wait 4 = .ok (.ifCond .eq 14, 3) := by decide +kernel
theorem dM_wait_7 : decode cM_wait 7 = .ok (.iload_n 1, 1) := by decide +kernel
theorem dM_wait_8 : decode cM_wait 8 = .ok (.ifCond .lt 10, 3) := by decide +kernel
theorem dM_wait_11 : decode cM_wait 11 = .ok (.iload_n 1, 1) := by decide +kernel
theorem dM_wait_12 : decode cM_wait 12 = .ok (.ldc_w 1041, 3) := by decide +kernel
theorem dM_wait_15 : decode cM_wait 15 = .ok (.if_icmp .le 5, 3) := by decide +kernel
theorem dM_wait_18 : decode cM_wait 18 = .ok (.iconst (-1), 1) := by decide +kernel
theorem dM_wait_19 : decode cM_wait 19 = .ok (.ireturn, 1) := by decide +kernel
theorem dM_wait_20 : decode cM_wait 20 = .ok (.aload_n 0, 1) := by decide +kernel
theorem dM_wait_21 : decode cM_wait 21 = .ok (.aload_n 0, 1) := by decide +kernel
theorem dM_wait_22 : decode cM_wait 22 = .ok (.getfield 877, 3) := by decide +kernel
theorem dM_wait_25 : decode cM_wait 25 = .ok (.ldc_w 964, 3) := by decide +kernel
theorem dM_wait_28 : decode cM_wait 28 = .ok (.iload_n 1, 1) := by decide +kernel
theorem dM_wait_29 : decode cM_wait 29 = .ok (.isub, 1) := by decide +kernel
theorem dM_wait_30 : decode cM_wait 30 = .ok (.if_icmp .le 9, 3) := by decide +kernel
theorem dM_wait_33 : decode cM_wait 33 = .ok (.ldc_w 964, 3) := by decide +kernel
theorem dM_wait_36 : decode cM_wait 36 = .ok (.goto 9, 3) := by decide +kernel
theorem dM_wait_39 : decode cM_wait 39 = .ok (.aload_n 0, 1) := by decide +kernel
theorem dM_wait_40 : decode cM_wait 40 = .ok (.getfield 877, 3) := by decide +kernel
theorem dM_wait_43 : decode cM_wait 43 = .ok (.iload_n 1, 1) := by decide +kernel
theorem dM_wait_44 : decode cM_wait 44 = .ok (.iadd, 1) := by decide +kernel
theorem dM_wait_45 : decode cM_wait 45 = .ok (.putfield 877, 3) := by decide +kernel
theorem dM_wait_48 : decode cM_wait 48 = .ok (.aload_n 0, 1) := by decide +kernel
theorem dM_wait_49 : decode cM_wait 49 = .ok (.getfield 877, 3) := by decide +kernel
theorem dM_wait_52 : decode cM_wait 52 = .ok (.ireturn, 1) := by decide +kernel
theorem dM_put__0 : decode cM_put_ 0 = .ok (.aload_n 0, 1) := by decide +kernel
theorem dM_put__1 : decode cM_put_ 1 = .ok (.getfield 822, 3) := by decide +kernel
theorem dM_put__4 : decode cM_put_ 4 = .ok (.ifCond .ne 5, 3) := by decide +kernel
theorem dM_put__7 : decode cM_put_ 7 = .ok (.iconst (-1), 1) := by decide +kernel
theorem dM_put__8 : decode cM_put_ 8 = .ok (.ireturn, 1) := by decide +kernel
theorem dM_put__9 : decode cM_put_ 9 = .ok (.aload_n 0, 1) := by decide +kernel
theorem dM_put__10 : decode cM_put_ 10 = .ok (.iload_n 2, 1) := by decide +kernel
theorem dM_put__11 : decode cM_put_ 11 = .ok (.invokevirtual 864, 3) := by decide +kernel
theorem dM_put__14 : decode cM_put_ 14 = .ok (.istore 6, 2) := by decide +kernel
theorem dM_put__16 : decode cM_put_ 16 = .ok (.iload_n 1, 1) := by decide +kernel
theorem dM_put__17 : decode cM_put_ 17 = .ok (.ifCond .lt 21, 3) := by decide +kernel
theorem dM_put__20 : decode cM_put_ 20 = .ok (.iload_n 1, 1) := by decide +kernel
theorem dM_put__21 : decode cM_put_ 21 = .ok (.aload_n 0, 1) := by decide +kernel
theorem dM_put__22 : decode cM_put_ 22 = .ok (.getfield 489, 3) := by decide +kernel
theorem dM_put__25 : decode cM_put_ 25 = .ok (.if_icmp .ge 13, 3) := by decide +kernel
theorem dM_put__28 : decode cM_put_ 28 = .ok (.iload_n 2, 1) := by decide +kernel
theorem dM_put__29 : decode cM_put_ 29 = .ok (.iconst 1, 1) := by decide +kernel
theorem dM_put__30 : decode cM_put_ 30 = .ok (.if_icmp .lt 8, 3) := by decide +kernel
theorem dM_put__33 : decode cM_put_ 33 = .ok (.iload 6, 2) := by decide +kernel
theorem dM_put__35 : decode cM_put_ 35 = .ok (.ifCond .ge 5, 3) := by decide +kernel
theorem dM_put__38 : decode cM_put_ 38 = .ok (.iconst 0, 1) := by decide +kernel
theorem dM_put__39 : decode cM_put_ 39 = .ok (.ireturn, 1) := by decide +kernel
theorem dM_put__40 : decode cM_put_ 40 = .ok (.aload_n 0, 1) := by decide +kernel
theorem dM_put__41 : decode cM_put_ 41 = .ok (.iconst (-1), 1) := by decide +kernel
theorem dM_put__42 : decode cM_put_ 42 = .ok (.aload_n 0, 1) := by decide +kernel
theorem dM_put__43 : decode cM_put_ 43 = .ok (.getfield 299, 3) := by decide +kernel
theorem dM_put__46 : decode cM_put_ 46 = .ok (.iload 6, 2) := by decide +kernel
theorem dM_put__48 : decode cM_put_ 48 = .ok (.invokestatic 840, 3) := by decide +kernel
theorem dM_put__51 : decode cM_put_ 51 = .ok (.iconst 1, 1) := by decide +kernel
theorem dM_put__52 : decode cM_put_ 52 = .ok (.iadd, 1) := by decide +kernel
theorem dM_put__53 : decode cM_put_ 53 = .ok (.iaload, 1) := by decide +kernel
theorem dM_put__54 : decode cM_put_ 54 = .ok (.iload_n 1, 1) := by decide +kernel
theorem dM_put__55 : decode cM_put_ 55 = .ok (.iconst 0, 1) := by decide +kernel
theorem dM_put__56 : decode cM_put_ 56 = .ok (.invokevirtual 980, 3) := by decide +kernel
theorem dM_put__59 : decode cM_put_ 59 = .ok (.istore 7, 2) := by decide +kernel
theorem dM_put__61 : decode cM_put_ 61 = .ok (.iload 7, 2) := by decide +kernel
theorem dM_put__63 : decode cM_put_ 63 = .ok (.ifCond .ge 5, 3) := by decide +kernel
theorem dM_put__66 : decode cM_put_ 66 = .ok (.iconst 0, 1) := by decide +kernel
theorem dM_put__67 : decode cM_put_ 67 = .ok (.ireturn, 1) := by decide +kernel
theorem dM_put__68 : decode cM_put_ 68 = .ok (.iconst 0, 1) := by decide +kernel
theorem dM_put__69 : decode cM_put_ 69 = .ok (.istore 8, 2) := by decide +kernel
theorem dM_put__71 : decode cM_put_ 71 = .ok (.iload 8, 2) := by decide +kernel
theorem dM_put__73 : decode cM_put_ 73 = .ok (.iconst 3, 1) := by decide +kernel
theorem dM_put__74 : decode cM_put_ 74 = .ok (.if_icmp .ge 81, 3) := by decide +kernel
theorem dM_put__77 : decode cM_put_ 77 = .ok (.iload 8, 2) := by decide +kernel
theorem dM_put__79 : decode cM_put_ 79 = .ok (.ifCond .ne 7, 3) := by decide +kernel
theorem dM_put__82 : decode cM_put_ 82 = .ok (.iload_n 3, 1) := by decide +kernel
theorem dM_put__83 : decode cM_put_ 83 = .ok (.goto 16, 3) := by decide +kernel
theorem dM_put__86 : decode cM_put_ 86 = .ok (.iload 8, 2) := by decide +kernel
theorem dM_put__88 : decode cM_put_ 88 = .ok (.iconst 1, 1) := by decide +kernel
theorem dM_put__89 : decode cM_put_ 89 = .ok (.if_icmp .ne 8, 3) := by decide +kernel
theorem dM_put__92 : decode cM_put_ 92 = .ok (.iload 4, 2) := by decide +kernel
theorem dM_put__94 : decode cM_put_ 94 = .ok (.goto 5, 3) := by decide +kernel
theorem dM_put__97 : decode cM_put_ 97 = .ok (.iload 5, 2) := by decide +kernel
theorem dM_put__99 : decode cM_put_ 99 = .ok (.istore 9, 2) := by decide +kernel
theorem dM_put__101 : decode cM_put_ 101 = .ok (.aload_n 0, 1) := by decide +kernel
theorem dM_put__102 : decode cM_put_ 102 = .ok (.getfield 308, 3) := by decide +kernel
theorem dM_put__105 : decode cM_put_ 105 = .ok (.iload 8, 2) := by decide +kernel
theorem dM_put__107 : decode cM_put_ 107 = .ok (.iload 8, 2) := by decide +kernel
theorem dM_put__109 : decode cM_put_ 109 = .ok (.aload_n 0, 1) := by decide +kernel
theorem dM_put__110 : decode cM_put_ 110 = .ok (.getfield 45, 3) := by decide +kernel
theorem dM_put__113 : decode cM_put_ 113 = .ok (.iload_n 1, 1) := by decide +kernel
theorem dM_put__114 : decode cM_put_ 114 = .ok (.iaload, 1) := by decide +kernel
theorem dM_put__115 : decode cM_put_ 115 = .ok (.if_icmp .lt 7, 3) := by decide +kernel
theorem dM_put__118 : decode cM_put_ 118 = .ok (.iconst 0, 1) := by decide +kernel
theorem dM_put__119 : decode cM_put_ 119 = .ok (.goto 29, 3) := by decide +kernel
theorem dM_put__122 : decode cM_put_ 122 = .ok (.aload_n 0, 1) := by decide +kernel
theorem dM_put__123 : decode cM_put_ 123 = .ok (.getfield 48, 3) := by decide +kernel
theorem dM_put__126 : decode cM_put_ 126 = .ok (.iconst 3, 1) := by decide +kernel
theorem dM_put__127 : decode cM_put_ 127 = .ok (.iload_n 1, 1) := by decide +kernel
theorem dM_put__128 : decode cM_put_ 128 = .ok (.imul, 1) := by decide +kernel
theorem dM_put__129 : decode cM_put_ 129 = .ok (.iload 8, 2) := by decide +kernel
theorem dM_put__131 : decode cM_put_ 131 = .ok (.iadd, 1) := by decide +kernel
theorem dM_put__132 : decode cM_put_ 132 = .ok (.iaload, 1) := by decide +kernel
theorem dM_put__133 : decode cM_put_ 133 = .ok (.iconst 2, 1) := by decide +kernel
theorem dM_put__134 : decode cM_put_ 134 = .ok (.if_icmp .ne 12, 3) := by decide +kernel
theorem dM_put__137 : decode cM_put_ 137 = .ok (.iload 9, 2) := by decide +kernel
theorem dM_put__139 : decode cM_put_ 139 = .ok (.ifCond .eq 7, 3) := by decide +kernel
theorem dM_put__142 : decode cM_put_ 142 = .ok (.iconst 1, 1) := by decide +kernel
theorem dM_put__143 : decode cM_put_ 143 = .ok (.goto 5, 3) := by decide +kernel
theorem dM_put__146 : decode cM_put_ 146 = .ok (.iload 9, 2) := by decide +kernel
theorem dM_put__148 : decode cM_put_ 148 = .ok (.iastore, 1) := by decide +kernel
theorem dM_put__149 : decode cM_put_ 149 = .ok (.iinc 8 1, 3) := by decide +kernel
theorem dM_put__152 : decode cM_put_ 152 = .ok (.goto (-81), 3) := by decide +kernel
theorem dM_put__155 : decode cM_put_ 155 = .ok (.aload_n 0, 1) := by decide +kernel
theorem dM_put__156 : decode cM_put_ 156 = .ok (.iload 7, 2) := by decide +kernel
theorem dM_put__158 : decode cM_put_ 158 = .ok (.iload_n 1, 1) := by decide +kernel
theorem dM_put__159 : decode cM_put_ 159 = .ok (.iconst 0, 1) := by decide +kernel
theorem dM_put__160 : decode cM_put_ 160 = .ok (.iload_n 2, 1) := by decide +kernel
theorem dM_put__161 : decode cM_put_ 161 = .ok (.invokevirtual 987, 3) := by decide +kernel
theorem dM_put__164 : decode cM_put_ 164 = .ok (.iconst 1, 1) := by decide +kernel
theorem dM_put__165 : decode cM_put_ 165 = .ok (.ireturn, 1) := by decide +kernel
theorem dM_slotAsked_0 : decode cM_slotAsked 0 = .ok (.aload_n 0, 1) := by decide +kernel
theorem dM_slotAsked_1 : decode cM_slotAsked 1 = .ok (.getfield 822, 3) := by decide +kernel
theorem dM_slotAsked_4 : decode cM_slotAsked 4 = .ok (.ifCond .eq 15, 3) := by decide +kernel
theorem dM_slotAsked_7 : decode cM_slotAsked 7 = .ok (.iload_n 1, 1) := by decide +kernel
theorem dM_slotAsked_8 : decode cM_slotAsked 8 = .ok (.ifCond .le 11, 3) := by decide +kernel
theorem dM_slotAsked_11 : decode cM_slotAsked 11 = .ok (.aload_n 0, 1) := by decide +kernel
theorem dM_slotAsked_12 : decode cM_slotAsked 12 = .ok (.iload_n 1, 1) := by decide +kernel
theorem dM_slotAsked_13 : decode cM_slotAsked 13 = .ok (.invokevirtual 864, 3) := by decide +kernel
theorem dM_slotAsked_16 : decode cM_slotAsked 16 = .ok (.goto 4, 3) := by decide +kernel
theorem dM_slotAsked_19 : decode cM_slotAsked 19 = .ok (.iconst (-1), 1) := by decide +kernel
theorem dM_slotAsked_20 : decode cM_slotAsked 20 = .ok (.ireturn, 1) := by decide +kernel
theorem dM_alive_0 : decode cM_alive 0 = .ok (.aload_n 0, 1) := by decide +kernel
theorem dM_alive_1 : decode cM_alive 1 = .ok (.getfield 822, 3) := by decide +kernel
theorem dM_alive_4 : decode cM_alive 4 = .ok (.ifCond .eq 29, 3) := by decide +kernel
theorem dM_alive_7 : decode cM_alive 7 = .ok (.iload_n 1, 1) := by decide +kernel
theorem dM_alive_8 : decode cM_alive 8 = .ok (.ifCond .lt 25, 3) := by decide +kernel
theorem dM_alive_11 : decode cM_alive 11 = .ok (.iload_n 1, 1) := by decide +kernel
theorem dM_alive_12 : decode cM_alive 12 = .ok (.aload_n 0, 1) := by decide +kernel
theorem dM_alive_13 : decode cM_alive 13 = .ok (.getfield 299, 3) := by decide +kernel
theorem dM_alive_16 : decode cM_alive 16 = .ok (.iconst 0, 1) := by decide +kernel
theorem dM_alive_17 : decode cM_alive 17 = .ok (.iaload, 1) := by decide +kernel
theorem dM_alive_18 : decode cM_alive 18 = .ok (.if_icmp .ge 15, 3) := by decide +kernel
theorem dM_alive_21 : decode cM_alive 21 = .ok (.aload_n 0, 1) := by decide +kernel
theorem dM_alive_22 : decode cM_alive 22 = .ok (.getfield 299, 3) := by decide +kernel
theorem dM_alive_25 : decode cM_alive 25 = .ok (.iload_n 1, 1) := by decide +kernel
theorem dM_alive_26 : decode cM_alive 26 = .ok (.invokestatic 840, 3) := by decide +kernel
theorem dM_alive_29 : decode cM_alive 29 = .ok (.iaload, 1) := by decide +kernel
theorem dM_alive_30 : decode cM_alive 30 = .ok (.goto 4, 3) := by decide +kernel
theorem dM_alive_33 : decode cM_alive 33 = .ok (.iconst (-1), 1) := by decide +kernel
theorem dM_alive_34 : decode cM_alive 34 = .ok (.ireturn, 1) := by decide +kernel
theorem dM_instance_0 : decode cM_instance 0 = .ok (.aload_n 0, 1) := by decide +kernel
theorem dM_instance_1 : decode cM_instance 1 = .ok (.iload_n 1, 1) := by decide +kernel
theorem dM_instance_2 : decode cM_instance 2 = .ok (.invokevirtual 1042, 3) := by decide +kernel
theorem dM_instance_5 : decode cM_instance 5 = .ok (.istore_n 3, 1) := by decide +kernel
theorem dM_instance_6 : decode cM_instance 6 = .ok (.iload_n 3, 1) := by decide +kernel
theorem dM_instance_7 : decode cM_instance 7 = .ok (.ifCond .ge 5, 3) := by decide +kernel
theorem dM_instance_10 : decode cM_instance 10 = .ok (.iconst (-1), 1) := by decide +kernel
theorem dM_instance_11 : decode cM_instance 11 = .ok (.ireturn, 1) := by decide +kernel
theorem dM_instance_12 : decode cM_instance 12 = .ok (.iload_n 3, 1) := by decide +kernel
theorem dM_instance_13 : decode cM_instance 13 = .ok (.invokestatic 840, 3) := by decide +kernel
theorem dM_instance_16 : decode cM_instance 16 = .ok (.istore 4, 2) := by decide +kernel
theorem dM_instance_18 : decode cM_instance 18 = .ok (.iload_n 2, 1) := by decide +kernel
theorem dM_instance_19 : decode cM_instance 19 = .ok (.tableswitch 108 0 6 #[41, 51, 61, 72, 82, 92, 102], 41) := by decide +kernel
theorem dM_instance_60 : decode cM_instance 60 = .ok (.aload_n 0, 1) := by decide +kernel
theorem dM_instance_61 : decode cM_instance 61 = .ok (.getfield 299, 3) := by decide +kernel
theorem dM_instance_64 : decode cM_instance 64 = .ok (.iload 4, 2) := by decide +kernel
theorem dM_instance_66 : decode cM_instance 66 = .ok (.iconst 1, 1) := by decide +kernel
theorem dM_instance_67 : decode cM_instance 67 = .ok (.iadd, 1) := by decide +kernel
theorem dM_instance_68 : decode cM_instance 68 = .ok (.iaload, 1) := by decide +kernel
theorem dM_instance_69 : decode cM_instance 69 = .ok (.ireturn, 1) := by decide +kernel
theorem dM_instance_70 : decode cM_instance 70 = .ok (.aload_n 0, 1) := by decide +kernel
theorem dM_instance_71 : decode cM_instance 71 = .ok (.getfield 299, 3) := by decide +kernel
theorem dM_instance_74 : decode cM_instance 74 = .ok (.iload 4, 2) := by decide +kernel
theorem dM_instance_76 : decode cM_instance 76 = .ok (.iconst 2, 1) := by decide +kernel
theorem dM_instance_77 : decode cM_instance 77 = .ok (.iadd, 1) := by decide +kernel
theorem dM_instance_78 : decode cM_instance 78 = .ok (.iaload, 1) := by decide +kernel
theorem dM_instance_79 : decode cM_instance 79 = .ok (.ireturn, 1) := by decide +kernel
theorem dM_instance_80 : decode cM_instance 80 = .ok (.aload_n 0, 1) := by decide +kernel
theorem dM_instance_81 : decode cM_instance 81 = .ok (.getfield 299, 3) := by decide +kernel
theorem dM_instance_84 : decode cM_instance 84 = .ok (.iload 4, 2) := by decide +kernel
theorem dM_instance_86 : decode cM_instance 86 = .ok (.bipush 25, 2) := by decide +kernel
theorem dM_instance_88 : decode cM_instance 88 = .ok (.iadd, 1) := by decide +kernel
theorem dM_instance_89 : decode cM_instance 89 = .ok (.iaload, 1) := by decide +kernel
theorem dM_instance_90 : decode cM_instance 90 = .ok (.ireturn, 1) := by decide +kernel
theorem dM_instance_91 : decode cM_instance 91 = .ok (.aload_n 0, 1) := by decide +kernel
theorem dM_instance_92 : decode cM_instance 92 = .ok (.getfield 299, 3) := by decide +kernel
theorem dM_instance_95 : decode cM_instance 95 = .ok (.iload 4, 2) := by decide +kernel
theorem dM_instance_97 : decode cM_instance 97 = .ok (.iconst 3, 1) := by decide +kernel
theorem dM_instance_98 : decode cM_instance 98 = .ok (.iadd, 1) := by decide +kernel
theorem dM_instance_99 : decode cM_instance 99 = .ok (.iaload, 1) := by decide +kernel
theorem dM_instance_100 : decode cM_instance 100 = .ok (.ireturn, 1) := by decide +kernel
theorem dM_instance_101 : decode cM_instance 101 = .ok (.aload_n 0, 1) := by decide +kernel
theorem dM_instance_102 : decode cM_instance 102 = .ok (.getfield 299, 3) := by decide +kernel
theorem dM_instance_105 : decode cM_instance 105 = .ok (.iload 4, 2) := by decide +kernel
theorem dM_instance_107 : decode cM_instance 107 = .ok (.iconst 4, 1) := by decide +kernel
theorem dM_instance_108 : decode cM_instance 108 = .ok (.iadd, 1) := by decide +kernel
theorem dM_instance_109 : decode cM_instance 109 = .ok (.iaload, 1) := by decide +kernel
theorem dM_instance_110 : decode cM_instance 110 = .ok (.ireturn, 1) := by decide +kernel
theorem dM_instance_111 : decode cM_instance 111 = .ok (.aload_n 0, 1) := by decide +kernel
theorem dM_instance_112 : decode cM_instance 112 = .ok (.getfield 299, 3) := by decide +kernel
theorem dM_instance_115 : decode cM_instance 115 = .ok (.iload 4, 2) := by decide +kernel
theorem dM_instance_117 : decode cM_instance 117 = .ok (.iconst 5, 1) := by decide +kernel
theorem dM_instance_118 : decode cM_instance 118 = .ok (.iadd, 1) := by decide +kernel
theorem dM_instance_119 : decode cM_instance 119 = .ok (.iaload, 1) := by decide +kernel
theorem dM_instance_120 : decode cM_instance 120 = .ok (.ireturn, 1) := by decide +kernel
theorem dM_instance_121 : decode cM_instance 121 = .ok (.aload_n 0, 1) := by decide +kernel
theorem dM_instance_122 : decode cM_instance 122 = .ok (.iload_n 3, 1) := by decide +kernel
theorem dM_instance_123 : decode cM_instance 123 = .ok (.invokevirtual 1026, 3) := by decide +kernel
theorem dM_instance_126 : decode cM_instance 126 = .ok (.ireturn, 1) := by decide +kernel
theorem dM_instance_127 : decode cM_instance 127 = .ok (.iconst (-1), 1) := by decide +kernel
theorem dM_instance_128 : decode cM_instance 128 = .ok (.ireturn, 1) := by decide +kernel
theorem dM_cell_0 : decode cM_cell 0 = .ok (.aload_n 0, 1) := by decide +kernel
theorem dM_cell_1 : decode cM_cell 1 = .ok (.iload_n 1, 1) := by decide +kernel
theorem dM_cell_2 : decode cM_cell 2 = .ok (.invokevirtual 1042, 3) := by decide +kernel
theorem dM_cell_5 : decode cM_cell 5 = .ok (.istore_n 3, 1) := by decide +kernel
theorem dM_cell_6 : decode cM_cell 6 = .ok (.iload_n 3, 1) := by decide +kernel
theorem dM_cell_7 : decode cM_cell 7 = .ok (.ifCond .lt 27, 3) := by decide +kernel
theorem dM_cell_10 : decode cM_cell 10 = .ok (.iload_n 2, 1) := by decide +kernel
theorem dM_cell_11 : decode cM_cell 11 = .ok (.ifCond .lt 23, 3) := by decide +kernel
theorem dM_cell_14 : decode cM_cell 14 = .ok (.iload_n 2, 1) := by decide +kernel
theorem dM_cell_15 : decode cM_cell 15 = .ok (.aload_n 0, 1) := by decide +kernel
theorem dM_cell_16 : decode cM_cell 16 = .ok (.getfield 94, 3) := by decide +kernel
theorem dM_cell_19 : decode cM_cell 19 = .ok (.aload_n 0, 1) := by decide +kernel
theorem dM_cell_20 : decode cM_cell 20 = .ok (.getfield 299, 3) := by decide +kernel
theorem dM_cell_23 : decode cM_cell 23 = .ok (.iload_n 3, 1) := by decide +kernel
theorem dM_cell_24 : decode cM_cell 24 = .ok (.invokestatic 840, 3) := by decide +kernel
theorem dM_cell_27 : decode cM_cell 27 = .ok (.iconst 1, 1) := by decide +kernel
theorem dM_cell_28 : decode cM_cell 28 = .ok (.iadd, 1) := by decide +kernel
theorem dM_cell_29 : decode cM_cell 29 = .ok (.iaload, 1) := by decide +kernel
theorem dM_cell_30 : decode cM_cell 30 = .ok (.iaload, 1) := by decide +kernel
theorem dM_cell_31 : decode cM_cell 31 = .ok (.if_icmp .lt 7, 3) := by decide +kernel
theorem dM_cell_34 : decode cM_cell 34 = .ok (.iconst 0, 1) := by decide +kernel
theorem dM_cell_35 : decode cM_cell 35 = .ok (.goto 17, 3) := by decide +kernel
theorem dM_cell_38 : decode cM_cell 38 = .ok (.aload_n 0, 1) := by decide +kernel
theorem dM_cell_39 : decode cM_cell 39 = .ok (.getfield 299, 3) := by decide +kernel
theorem dM_cell_42 : decode cM_cell 42 = .ok (.iload_n 3, 1) := by decide +kernel
theorem dM_cell_43 : decode cM_cell 43 = .ok (.invokestatic 840, 3) := by decide +kernel
theorem dM_cell_46 : decode cM_cell 46 = .ok (.bipush 6, 2) := by decide +kernel
theorem dM_cell_48 : decode cM_cell 48 = .ok (.iadd, 1) := by decide +kernel
theorem dM_cell_49 : decode cM_cell 49 = .ok (.iload_n 2, 1) := by decide +kernel
theorem dM_cell_50 : decode cM_cell 50 = .ok (.iadd, 1) := by decide +kernel
theorem dM_cell_51 : decode cM_cell 51 = .ok (.iaload, 1) := by decide +kernel
theorem dM_cell_52 : decode cM_cell 52 = .ok (.ireturn, 1) := by decide +kernel
theorem dM_timer_0 : decode cM_timer 0 = .ok (.aload_n 0, 1) := by decide +kernel
theorem dM_timer_1 : decode cM_timer 1 = .ok (.iload_n 1, 1) := by decide +kernel
theorem dM_timer_2 : decode cM_timer 2 = .ok (.invokevirtual 1042, 3) := by decide +kernel
theorem dM_timer_5 : decode cM_timer 5 = .ok (.istore_n 3, 1) := by decide +kernel
theorem dM_timer_6 : decode cM_timer 6 = .ok (.iload_n 3, 1) := by decide +kernel
theorem dM_timer_7 : decode cM_timer 7 = .ok (.ifCond .lt 27, 3) := by decide +kernel
theorem dM_timer_10 : decode cM_timer 10 = .ok (.iload_n 2, 1) := by decide +kernel
theorem dM_timer_11 : decode cM_timer 11 = .ok (.ifCond .lt 23, 3) := by decide +kernel
theorem dM_timer_14 : decode cM_timer 14 = .ok (.iload_n 2, 1) := by decide +kernel
theorem dM_timer_15 : decode cM_timer 15 = .ok (.aload_n 0, 1) := by decide +kernel
theorem dM_timer_16 : decode cM_timer 16 = .ok (.getfield 97, 3) := by decide +kernel
theorem dM_timer_19 : decode cM_timer 19 = .ok (.aload_n 0, 1) := by decide +kernel
theorem dM_timer_20 : decode cM_timer 20 = .ok (.getfield 299, 3) := by decide +kernel
theorem dM_timer_23 : decode cM_timer 23 = .ok (.iload_n 3, 1) := by decide +kernel
theorem dM_timer_24 : decode cM_timer 24 = .ok (.invokestatic 840, 3) := by decide +kernel
theorem dM_timer_27 : decode cM_timer 27 = .ok (.iconst 1, 1) := by decide +kernel
theorem dM_timer_28 : decode cM_timer 28 = .ok (.iadd, 1) := by decide +kernel
theorem dM_timer_29 : decode cM_timer 29 = .ok (.iaload, 1) := by decide +kernel
theorem dM_timer_30 : decode cM_timer 30 = .ok (.iaload, 1) := by decide +kernel
theorem dM_timer_31 : decode cM_timer 31 = .ok (.if_icmp .lt 7, 3) := by decide +kernel
theorem dM_timer_34 : decode cM_timer 34 = .ok (.iconst (-1), 1) := by decide +kernel
theorem dM_timer_35 : decode cM_timer 35 = .ok (.goto 17, 3) := by decide +kernel
theorem dM_timer_38 : decode cM_timer 38 = .ok (.aload_n 0, 1) := by decide +kernel
theorem dM_timer_39 : decode cM_timer 39 = .ok (.getfield 299, 3) := by decide +kernel
theorem dM_timer_42 : decode cM_timer 42 = .ok (.iload_n 3, 1) := by decide +kernel
theorem dM_timer_43 : decode cM_timer 43 = .ok (.invokestatic 840, 3) := by decide +kernel
theorem dM_timer_46 : decode cM_timer 46 = .ok (.bipush 22, 2) := by decide +kernel
theorem dM_timer_48 : decode cM_timer 48 = .ok (.iadd, 1) := by decide +kernel
theorem dM_timer_49 : decode cM_timer 49 = .ok (.iload_n 2, 1) := by decide +kernel
theorem dM_timer_50 : decode cM_timer 50 = .ok (.iadd, 1) := by decide +kernel
theorem dM_timer_51 : decode cM_timer 51 = .ok (.iaload, 1) := by decide +kernel
theorem dM_timer_52 : decode cM_timer 52 = .ok (.ireturn, 1) := by decide +kernel
theorem dM_queued_0 : decode cM_queued 0 = .ok (.aload_n 0, 1) := by decide +kernel
theorem dM_queued_1 : decode cM_queued 1 = .ok (.iload_n 1, 1) := by decide +kernel
theorem dM_queued_2 : decode cM_queued 2 = .ok (.invokevirtual 1042, 3) := by decide +kernel
theorem dM_queued_5 : decode cM_queued 5 = .ok (.istore 4, 2) := by decide +kernel
theorem dM_queued_7 : decode cM_queued 7 = .ok (.iload 4, 2) := by decide +kernel
theorem dM_queued_9 : decode cM_queued 9 = .ok (.ifCond .lt 33, 3) := by decide +kernel
theorem dM_queued_12 : decode cM_queued 12 = .ok (.iload_n 2, 1) := by decide +kernel
theorem dM_queued_13 : decode cM_queued 13 = .ok (.ifCond .lt 29, 3) := by decide +kernel
theorem dM_queued_16 : decode cM_queued 16 = .ok (.iload_n 2, 1) := by decide +kernel
theorem dM_queued_17 : decode cM_queued 17 = .ok (.aload_n 0, 1) := by decide +kernel
theorem dM_queued_18 : decode cM_queued 18 = .ok (.getfield 299, 3) := by decide +kernel
theorem dM_queued_21 : decode cM_queued 21 = .ok (.iload 4, 2) := by decide +kernel
theorem dM_queued_23 : decode cM_queued 23 = .ok (.invokestatic 840, 3) := by decide +kernel
theorem dM_queued_26 : decode cM_queued 26 = .ok (.bipush 25, 2) := by decide +kernel
theorem dM_queued_28 : decode cM_queued 28 = .ok (.iadd, 1) := by decide +kernel
theorem dM_queued_29 : decode cM_queued 29 = .ok (.iaload, 1) := by decide +kernel
theorem dM_queued_30 : decode cM_queued 30 = .ok (.if_icmp .ge 12, 3) := by decide +kernel
theorem dM_queued_33 : decode cM_queued 33 = .ok (.iload_n 3, 1) := by decide +kernel
theorem dM_queued_34 : decode cM_queued 34 = .ok (.ifCond .lt 8, 3) := by decide +kernel
theorem dM_queued_37 : decode cM_queued 37 = .ok (.iload_n 3, 1) := by decide +kernel
theorem dM_queued_38 : decode cM_queued 38 = .ok (.iconst 5, 1) := by decide +kernel
theorem dM_queued_39 : decode cM_queued 39 = .ok (.if_icmp .lt 5, 3) := by decide +kernel
theorem dM_queued_42 : decode cM_queued 42 = .ok (.iconst (-1), 1) := by decide +kernel
theorem dM_queued_43 : decode cM_queued 43 = .ok (.ireturn, 1) := by decide +kernel
theorem dM_queued_44 : decode cM_queued 44 = .ok (.aload_n 0, 1) := by decide +kernel
theorem dM_queued_45 : decode cM_queued 45 = .ok (.getfield 299, 3) := by decide +kernel
theorem dM_queued_48 : decode cM_queued 48 = .ok (.iload 4, 2) := by decide +kernel
theorem dM_queued_50 : decode cM_queued 50 = .ok (.invokestatic 840, 3) := by decide +kernel
theorem dM_queued_53 : decode cM_queued 53 = .ok (.bipush 25, 2) := by decide +kernel
theorem dM_queued_55 : decode cM_queued 55 = .ok (.iadd, 1) := by decide +kernel
theorem dM_queued_56 : decode cM_queued 56 = .ok (.iconst 1, 1) := by decide +kernel
theorem dM_queued_57 : decode cM_queued 57 = .ok (.iadd, 1) := by decide +kernel
theorem dM_queued_58 : decode cM_queued 58 = .ok (.iconst 5, 1) := by decide +kernel
theorem dM_queued_59 : decode cM_queued 59 = .ok (.iload_n 2, 1) := by decide +kernel
theorem dM_queued_60 : decode cM_queued 60 = .ok (.imul, 1) := by decide +kernel
theorem dM_queued_61 : decode cM_queued 61 = .ok (.iadd, 1) := by decide +kernel
theorem dM_queued_62 : decode cM_queued 62 = .ok (.iload_n 3, 1) := by decide +kernel
theorem dM_queued_63 : decode cM_queued 63 = .ok (.iadd, 1) := by decide +kernel
theorem dM_queued_64 : decode cM_queued 64 = .ok (.iaload, 1) := by decide +kernel
theorem dM_queued_65 : decode cM_queued 65 = .ok (.ireturn, 1) := by decide +kernel
theorem dM_way_0 : decode cM_way 0 = .ok (.aload_n 0, 1) := by decide +kernel
theorem dM_way_1 : decode cM_way 1 = .ok (.getfield 822, 3) := by decide +kernel
theorem dM_way_4 : decode cM_way 4 = .ok (.ifCond .eq 42, 3) := by decide +kernel
theorem dM_way_7 : decode cM_way 7 = .ok (.iload_n 1, 1) := by decide +kernel
theorem dM_way_8 : decode cM_way 8 = .ok (.ifCond .lt 38, 3) := by decide +kernel
theorem dM_way_11 : decode cM_way 11 = .ok (.iload_n 1, 1) := by decide +kernel
theorem dM_way_12 : decode cM_way 12 = .ok (.aload_n 0, 1) := by decide +kernel
theorem dM_way_13 : decode cM_way 13 = .ok (.getfield 492, 3) := by decide +kernel
theorem dM_way_16 : decode cM_way 16 = .ok (.if_icmp .ge 30, 3) := by decide +kernel
theorem dM_way_19 : decode cM_way 19 = .ok (.iload_n 2, 1) := by decide +kernel
theorem dM_way_20 : decode cM_way 20 = .ok (.ifCond .lt 26, 3) := by decide +kernel
theorem dM_way_23 : decode cM_way 23 = .ok (.iload_n 2, 1) := by decide +kernel
theorem dM_way_24 : decode cM_way 24 = .ok (.aload_n 0, 1) := by decide +kernel
theorem dM_way_25 : decode cM_way 25 = .ok (.getfield 299, 3) := by decide +kernel
theorem dM_way_28 : decode cM_way 28 = .ok (.iload_n 1, 1) := by decide +kernel
theorem dM_way_29 : decode cM_way 29 = .ok (.invokestatic 886, 3) := by decide +kernel
theorem dM_way_32 : decode cM_way 32 = .ok (.iaload, 1) := by decide +kernel
theorem dM_way_33 : decode cM_way 33 = .ok (.if_icmp .ge 13, 3) := by decide +kernel
theorem dM_way_36 : decode cM_way 36 = .ok (.iload_n 3, 1) := by decide +kernel
theorem dM_way_37 : decode cM_way 37 = .ok (.ifCond .lt 9, 3) := by decide +kernel
theorem dM_way_40 : decode cM_way 40 = .ok (.iload_n 3, 1) := by decide +kernel
theorem dM_way_41 : decode cM_way 41 = .ok (.bipush 7, 2) := by decide +kernel
theorem dM_way_43 : decode cM_way 43 = .ok (.if_icmp .lt 5, 3) := by decide +kernel
theorem dM_way_46 : decode cM_way 46 = .ok (.iconst (-1), 1) := by decide +kernel
theorem dM_way_47 : decode cM_way 47 = .ok (.ireturn, 1) := by decide +kernel
theorem dM_way_48 : decode cM_way 48 = .ok (.aload_n 0, 1) := by decide +kernel
theorem dM_way_49 : decode cM_way 49 = .ok (.getfield 299, 3) := by decide +kernel
theorem dM_way_52 : decode cM_way 52 = .ok (.iload_n 1, 1) := by decide +kernel
theorem dM_way_53 : decode cM_way 53 = .ok (.invokestatic 886, 3) := by decide +kernel
theorem dM_way_56 : decode cM_way 56 = .ok (.iconst 1, 1) := by decide +kernel
theorem dM_way_57 : decode cM_way 57 = .ok (.iadd, 1) := by decide +kernel
theorem dM_way_58 : decode cM_way 58 = .ok (.bipush 7, 2) := by decide +kernel
theorem dM_way_60 : decode cM_way 60 = .ok (.iload_n 2, 1) := by decide +kernel
theorem dM_way_61 : decode cM_way 61 = .ok (.imul, 1) := by decide +kernel
theorem dM_way_62 : decode cM_way 62 = .ok (.iadd, 1) := by decide +kernel
theorem dM_way_63 : decode cM_way 63 = .ok (.iload_n 3, 1) := by decide +kernel
theorem dM_way_64 : decode cM_way 64 = .ok (.iadd, 1) := by decide +kernel
theorem dM_way_65 : decode cM_way 65 = .ok (.iaload, 1) := by decide +kernel
theorem dM_way_66 : decode cM_way 66 = .ok (.ireturn, 1) := by decide +kernel
theorem dM_out_0 : decode cM_out 0 = .ok (.aload_n 0, 1) := by decide +kernel
theorem dM_out_1 : decode cM_out 1 = .ok (.getfield 822, 3) := by decide +kernel
theorem dM_out_4 : decode cM_out 4 = .ok (.ifCond .eq 24, 3) := by decide +kernel
theorem dM_out_7 : decode cM_out 7 = .ok (.iload_n 1, 1) := by decide +kernel
theorem dM_out_8 : decode cM_out 8 = .ok (.ifCond .lt 20, 3) := by decide +kernel
theorem dM_out_11 : decode cM_out 11 = .ok (.iload_n 1, 1) := by decide +kernel
theorem dM_out_12 : decode cM_out 12 = .ok (.aload_n 0, 1) := by decide +kernel
theorem dM_out_13 : decode cM_out 13 = .ok (.getfield 880, 3) := by decide +kernel
theorem dM_out_16 : decode cM_out 16 = .ok (.if_icmp .ge 12, 3) := by decide +kernel
theorem dM_out_19 : decode cM_out 19 = .ok (.iload_n 2, 1) := by decide +kernel
theorem dM_out_20 : decode cM_out 20 = .ok (.ifCond .lt 8, 3) := by decide +kernel
theorem dM_out_23 : decode cM_out 23 = .ok (.iload_n 2, 1) := by decide +kernel
theorem dM_out_24 : decode cM_out 24 = .ok (.iconst 5, 1) := by decide +kernel
theorem dM_out_25 : decode cM_out 25 = .ok (.if_icmp .le 5, 3) := by decide +kernel
theorem dM_out_28 : decode cM_out 28 = .ok (.iconst (-1), 1) := by decide +kernel
theorem dM_out_29 : decode cM_out 29 = .ok (.ireturn, 1) := by decide +kernel
theorem dM_out_30 : decode cM_out 30 = .ok (.aload_n 0, 1) := by decide +kernel
theorem dM_out_31 : decode cM_out 31 = .ok (.getfield 305, 3) := by decide +kernel
theorem dM_out_34 : decode cM_out 34 = .ok (.bipush 6, 2) := by decide +kernel
theorem dM_out_36 : decode cM_out 36 = .ok (.aload_n 0, 1) := by decide +kernel
theorem dM_out_37 : decode cM_out 37 = .ok (.getfield 874, 3) := by decide +kernel
theorem dM_out_40 : decode cM_out 40 = .ok (.aload_n 0, 1) := by decide +kernel
theorem dM_out_41 : decode cM_out 41 = .ok (.getfield 880, 3) := by decide +kernel
theorem dM_out_44 : decode cM_out 44 = .ok (.isub, 1) := by decide +kernel
theorem dM_out_45 : decode cM_out 45 = .ok (.iload_n 1, 1) := by decide +kernel
theorem dM_out_46 : decode cM_out 46 = .ok (.iadd, 1) := by decide +kernel
theorem dM_out_47 : decode cM_out 47 = .ok (.sipush 200, 3) := by decide +kernel
theorem dM_out_50 : decode cM_out 50 = .ok (.iadd, 1) := by decide +kernel
theorem dM_out_51 : decode cM_out 51 = .ok (.sipush 200, 3) := by decide +kernel
theorem dM_out_54 : decode cM_out 54 = .ok (.irem, 1) := by decide +kernel
theorem dM_out_55 : decode cM_out 55 = .ok (.imul, 1) := by decide +kernel
theorem dM_out_56 : decode cM_out 56 = .ok (.iload_n 2, 1) := by decide +kernel
theorem dM_out_57 : decode cM_out 57 = .ok (.iadd, 1) := by decide +kernel
theorem dM_out_58 : decode cM_out 58 = .ok (.iaload, 1) := by decide +kernel
theorem dM_out_59 : decode cM_out 59 = .ok (.ireturn, 1) := by decide +kernel
theorem dM_event_0 : decode cM_event 0 = .ok (.aload_n 0, 1) := by decide +kernel
theorem dM_event_1 : decode cM_event 1 = .ok (.getfield 822, 3) := by decide +kernel
theorem dM_event_4 : decode cM_event 4 = .ok (.ifCond .eq 24, 3) := by decide +kernel
theorem dM_event_7 : decode cM_event 7 = .ok (.iload_n 1, 1) := by decide +kernel
theorem dM_event_8 : decode cM_event 8 = .ok (.ifCond .lt 20, 3) := by decide +kernel
theorem dM_event_11 : decode cM_event 11 = .ok (.iload_n 1, 1) := by decide +kernel
theorem dM_event_12 : decode cM_event 12 = .ok (.aload_n 0, 1) := by decide +kernel
theorem dM_event_13 : decode cM_event 13 = .ok (.getfield 849, 3) := by decide +kernel
theorem dM_event_16 : decode cM_event 16 = .ok (.if_icmp .ge 12, 3) := by decide +kernel
theorem dM_event_19 : decode cM_event 19 = .ok (.iload_n 2, 1) := by decide +kernel
theorem dM_event_20 : decode cM_event 20 = .ok (.ifCond .lt 8, 3) := by decide +kernel
theorem dM_event_23 : decode cM_event 23 = .ok (.iload_n 2, 1) := by decide +kernel
theorem dM_event_24 : decode cM_event 24 = .ok (.iconst 3, 1) := by decide +kernel
theorem dM_event_25 : decode cM_event 25 = .ok (.if_icmp .le 5, 3) := by decide +kernel
theorem dM_event_28 : decode cM_event 28 = .ok (.iconst (-1), 1) := by decide +kernel
theorem dM_event_29 : decode cM_event 29 = .ok (.ireturn, 1) := by decide +kernel
theorem dM_event_30 : decode cM_event 30 = .ok (.aload_n 0, 1) := by decide +kernel
theorem dM_event_31 : decode cM_event 31 = .ok (.getfield 302, 3) := by decide +kernel
theorem dM_event_34 : decode cM_event 34 = .ok (.iconst 4, 1) := by decide +kernel
theorem dM_event_35 : decode cM_event 35 = .ok (.aload_n 0, 1) := by decide +kernel
theorem dM_event_36 : decode cM_event 36 = .ok (.getfield 846, 3) := by decide +kernel
theorem dM_event_39 : decode cM_event 39 = .ok (.iload_n 1, 1) := by decide +kernel
theorem dM_event_40 : decode cM_event 40 = .ok (.iadd, 1) := by decide +kernel
theorem dM_event_41 : decode cM_event 41 = .ok (.sipush 500, 3) := by decide +kernel
theorem dM_event_44 : decode cM_event 44 = .ok (.irem, 1) := by decide +kernel
theorem dM_event_45 : decode cM_event 45 = .ok (.imul, 1) := by decide +kernel
theorem dM_event_46 : decode cM_event 46 = .ok (.iload_n 2, 1) := by decide +kernel
theorem dM_event_47 : decode cM_event 47 = .ok (.iadd, 1) := by decide +kernel
theorem dM_event_48 : decode cM_event 48 = .ok (.iaload, 1) := by decide +kernel
theorem dM_event_49 : decode cM_event 49 = .ok (.ireturn, 1) := by decide +kernel
theorem dM_count_0 : decode cM_count 0 = .ok (.iload_n 1, 1) := by decide +kernel
theorem dM_count_1 : decode cM_count 1 = .ok (.tableswitch 144 0 14 #[75, 91, 107, 123, 144, 144, 144, 144, 144, 144, 144, 144, 144, 144, 139], 75) := by decide +kernel
theorem dM_count_76 : decode cM_count 76 = .ok (.aload_n 0, 1) := by decide +kernel
theorem dM_count_77 : decode cM_count 77 = .ok (.getfield 819, 3) := by decide +kernel
theorem dM_count_80 : decode cM_count 80 = .ok (.ifCond .eq 10, 3) := by decide +kernel
theorem dM_count_83 : decode cM_count 83 = .ok (.aload_n 0, 1) := by decide +kernel
theorem dM_count_84 : decode cM_count 84 = .ok (.getfield 489, 3) := by decide +kernel
theorem dM_count_87 : decode cM_count 87 = .ok (.goto 4, 3) := by decide +kernel
theorem dM_count_90 : decode cM_count 90 = .ok (.iconst 0, 1) := by decide +kernel
theorem dM_count_91 : decode cM_count 91 = .ok (.ireturn, 1) := by decide +kernel
theorem dM_count_92 : decode cM_count 92 = .ok (.aload_n 0, 1) := by decide +kernel
theorem dM_count_93 : decode cM_count 93 = .ok (.getfield 819, 3) := by decide +kernel
theorem dM_count_96 : decode cM_count 96 = .ok (.ifCond .eq 10, 3) := by decide +kernel
theorem dM_count_99 : decode cM_count 99 = .ok (.aload_n 0, 1) := by decide +kernel
theorem dM_count_100 : decode cM_count 100 = .ok (.getfield 492, 3) := by decide +kernel
theorem dM_count_103 : decode cM_count 103 = .ok (.goto 4, 3) := by decide +kernel
theorem dM_count_106 : decode cM_count 106 = .ok (.iconst 0, 1) := by decide +kernel
theorem dM_count_107 : decode cM_count 107 = .ok (.ireturn, 1) := by decide +kernel
theorem dM_count_108 : decode cM_count 108 = .ok (.aload_n 0, 1) := by decide +kernel
theorem dM_count_109 : decode cM_count 109 = .ok (.getfield 819, 3) := by decide +kernel
theorem dM_count_112 : decode cM_count 112 = .ok (.ifCond .eq 10, 3) := by decide +kernel
theorem dM_count_115 : decode cM_count 115 = .ok (.aload_n 0, 1) := by decide +kernel
theorem dM_count_116 : decode cM_count 116 = .ok (.getfield 495, 3) := by decide +kernel
theorem dM_count_119 : decode cM_count 119 = .ok (.goto 4, 3) := by decide +kernel
theorem dM_count_122 : decode cM_count 122 = .ok (.iconst 0, 1) := by decide +kernel
theorem dM_count_123 : decode cM_count 123 = .ok (.ireturn, 1) := by decide +kernel
theorem dM_count_124 : decode cM_count 124 = .ok (.aload_n 0, 1) := by decide +kernel
theorem dM_count_125 : decode cM_count 125 = .ok (.getfield 819, 3) := by decide +kernel
theorem dM_count_128 : decode cM_count 128 = .ok (.ifCond .eq 10, 3) := by decide +kernel
theorem dM_count_131 : decode cM_count 131 = .ok (.aload_n 0, 1) := by decide +kernel
theorem dM_count_132 : decode cM_count 132 = .ok (.getfield 831, 3) := by decide +kernel
theorem dM_count_135 : decode cM_count 135 = .ok (.goto 4, 3) := by decide +kernel
theorem dM_count_138 : decode cM_count 138 = .ok (.iconst 0, 1) := by decide +kernel
theorem dM_count_139 : decode cM_count 139 = .ok (.ireturn, 1) := by decide +kernel
theorem dM_count_140 : decode cM_count 140 = .ok (.aload_n 0, 1) := by decide +kernel
theorem dM_count_141 : decode cM_count 141 = .ok (.getfield 402, 3) := by decide +kernel
theorem dM_count_144 : decode cM_count 144 = .ok (.ireturn, 1) := by decide +kernel
theorem dM_count_145 : decode cM_count 145 = .ok (.iload_n 1, 1) := by decide +kernel
theorem dM_count_146 : decode cM_count 146 = .ok (.ifCond .lt 9, 3) := by decide +kernel
theorem dM_count_149 : decode cM_count 149 = .ok (.iload_n 1, 1) := by decide +kernel
theorem dM_count_150 : decode cM_count 150 = .ok (.bipush 18, 2) := by decide +kernel
theorem dM_count_152 : decode cM_count 152 = .ok (.if_icmp .le 7, 3) := by decide +kernel
theorem dM_count_155 : decode cM_count 155 = .ok (.iconst (-1), 1) := by decide +kernel
theorem dM_count_156 : decode cM_count 156 = .ok (.goto 19, 3) := by decide +kernel
theorem dM_count_159 : decode cM_count 159 = .ok (.aload_n 0, 1) := by decide +kernel
theorem dM_count_160 : decode cM_count 160 = .ok (.getfield 822, 3) := by decide +kernel
theorem dM_count_163 : decode cM_count 163 = .ok (.ifCond .eq 11, 3) := by decide +kernel
theorem dM_count_166 : decode cM_count 166 = .ok (.aload_n 0, 1) := by decide +kernel
theorem dM_count_167 : decode cM_count 167 = .ok (.iload_n 1, 1) := by decide +kernel
theorem dM_count_168 : decode cM_count 168 = .ok (.invokevirtual 1045, 3) := by decide +kernel
theorem dM_count_171 : decode cM_count 171 = .ok (.goto 4, 3) := by decide +kernel
theorem dM_count_174 : decode cM_count 174 = .ok (.iconst 0, 1) := by decide +kernel
theorem dM_count_175 : decode cM_count 175 = .ok (.ireturn, 1) := by decide +kernel
theorem dM_type_0 : decode cM_type 0 = .ok (.aload_n 0, 1) := by decide +kernel
theorem dM_type_1 : decode cM_type 1 = .ok (.getfield 819, 3) := by decide +kernel
theorem dM_type_4 : decode cM_type 4 = .ok (.ifCond .eq 15, 3) := by decide +kernel
theorem dM_type_7 : decode cM_type 7 = .ok (.iload_n 1, 1) := by decide +kernel
theorem dM_type_8 : decode cM_type 8 = .ok (.ifCond .lt 11, 3) := by decide +kernel
theorem dM_type_11 : decode cM_type 11 = .ok (.iload_n 1, 1) := by decide +kernel
theorem dM_type_12 : decode cM_type 12 = .ok (.aload_n 0, 1) := by decide +kernel
theorem dM_type_13 : decode cM_type 13 = .ok (.getfield 495, 3) := by decide +kernel
theorem dM_type_16 : decode cM_type 16 = .ok (.if_icmp .lt 5, 3) := by decide +kernel
theorem dM_type_19 : decode cM_type 19 = .ok (.iconst (-1), 1) := by decide +kernel
theorem dM_type_20 : decode cM_type 20 = .ok (.ireturn, 1) := by decide +kernel
theorem dM_type_21 : decode cM_type 21 = .ok (.iload_n 2, 1) := by decide +kernel
theorem dM_type_22 : decode cM_type 22 = .ok (.tableswitch 69 0 4 #[34, 41, 48, 55, 62], 34) := by decide +kernel
theorem dM_type_56 : decode cM_type 56 = .ok (.aload_n 0, 1) := by decide +kernel
theorem dM_type_57 : decode cM_type 57 = .ok (.getfield 100, 3) := by decide +kernel
theorem dM_type_60 : decode cM_type 60 = .ok (.iload_n 1, 1) := by decide +kernel
theorem dM_type_61 : decode cM_type 61 = .ok (.iaload, 1) := by decide +kernel
theorem dM_type_62 : decode cM_type 62 = .ok (.ireturn, 1) := by decide +kernel
theorem dM_type_63 : decode cM_type 63 = .ok (.aload_n 0, 1) := by decide +kernel
theorem dM_type_64 : decode cM_type 64 = .ok (.getfield 94, 3) := by decide +kernel
theorem dM_type_67 : decode cM_type 67 = .ok (.iload_n 1, 1) := by decide +kernel
theorem dM_type_68 : decode cM_type 68 = .ok (.iaload, 1) := by decide +kernel
theorem dM_type_69 : decode cM_type 69 = .ok (.ireturn, 1) := by decide +kernel
theorem dM_type_70 : decode cM_type 70 = .ok (.aload_n 0, 1) := by decide +kernel
theorem dM_type_71 : decode cM_type 71 = .ok (.getfield 97, 3) := by decide +kernel
theorem dM_type_74 : decode cM_type 74 = .ok (.iload_n 1, 1) := by decide +kernel
theorem dM_type_75 : decode cM_type 75 = .ok (.iaload, 1) := by decide +kernel
theorem dM_type_76 : decode cM_type 76 = .ok (.ireturn, 1) := by decide +kernel
theorem dM_type_77 : decode cM_type 77 = .ok (.aload_n 0, 1) := by decide +kernel
theorem dM_type_78 : decode cM_type 78 = .ok (.getfield 82, 3) := by decide +kernel
theorem dM_type_81 : decode cM_type 81 = .ok (.iload_n 1, 1) := by decide +kernel
theorem dM_type_82 : decode cM_type 82 = .ok (.iaload, 1) := by decide +kernel
theorem dM_type_83 : decode cM_type 83 = .ok (.ireturn, 1) := by decide +kernel
theorem dM_type_84 : decode cM_type 84 = .ok (.aload_n 0, 1) := by decide +kernel
theorem dM_type_85 : decode cM_type 85 = .ok (.getfield 85, 3) := by decide +kernel
theorem dM_type_88 : decode cM_type 88 = .ok (.iload_n 1, 1) := by decide +kernel
theorem dM_type_89 : decode cM_type 89 = .ok (.iaload, 1) := by decide +kernel
theorem dM_type_90 : decode cM_type 90 = .ok (.ireturn, 1) := by decide +kernel
theorem dM_type_91 : decode cM_type 91 = .ok (.iconst (-1), 1) := by decide +kernel
theorem dM_type_92 : decode cM_type 92 = .ok (.ireturn, 1) := by decide +kernel
theorem dM_search_0 : decode cM_search 0 = .ok (.aload_n 0, 1) := by decide +kernel
theorem dM_search_1 : decode cM_search 1 = .ok (.getfield 822, 3) := by decide +kernel
theorem dM_search_4 : decode cM_search 4 = .ok (.ifCond .eq 15, 3) := by decide +kernel
theorem dM_search_7 : decode cM_search 7 = .ok (.iload_n 1, 1) := by decide +kernel
theorem dM_search_8 : decode cM_search 8 = .ok (.iconst 1, 1) := by decide +kernel
theorem dM_search_9 : decode cM_search 9 = .ok (.if_icmp .lt 10, 3) := by decide +kernel
theorem dM_search_12 : decode cM_search 12 = .ok (.iload_n 1, 1) := by decide +kernel
theorem dM_search_13 : decode cM_search 13 = .ok (.sipush 200, 3) := by decide +kernel
theorem dM_search_16 : decode cM_search 16 = .ok (.if_icmp .le 5, 3) := by decide +kernel
theorem dM_search_19 : decode cM_search 19 = .ok (.iconst (-1), 1) := by decide +kernel
theorem dM_search_20 : decode cM_search 20 = .ok (.ireturn, 1) := by decide +kernel
theorem dM_search_21 : decode cM_search 21 = .ok (.iconst 0, 1) := by decide +kernel
theorem dM_search_22 : decode cM_search 22 = .ok (.istore_n 2, 1) := by decide +kernel
theorem dM_search_23 : decode cM_search 23 = .ok (.iload_n 2, 1) := by decide +kernel
theorem dM_search_24 : decode cM_search 24 = .ok (.sipush 1104, 3) := by decide +kernel
theorem dM_search_27 : decode cM_search 27 = .ok (.if_icmp .ge 21, 3) := by decide +kernel
theorem dM_search_30 : decode cM_search 30 = .ok (.aload_n 0, 1) := by decide +kernel
theorem dM_search_31 : decode cM_search 31 = .ok (.getfield 321, 3) := by decide +kernel
theorem dM_search_34 : decode cM_search 34 = .ok (.iload_n 2, 1) := by decide +kernel
theorem dM_search_35 : decode cM_search 35 = .ok (.aload_n 0, 1) := by decide +kernel
theorem dM_search_36 : decode cM_search 36 = .ok (.getfield 299, 3) := by decide +kernel
theorem dM_search_39 : decode cM_search 39 = .ok (.iload_n 2, 1) := by decide +kernel
theorem dM_search_40 : decode cM_search 40 = .ok (.iaload, 1) := by decide +kernel
theorem dM_search_41 : decode cM_search 41 = .ok (.iastore, 1) := by decide +kernel
theorem dM_search_42 : decode cM_search 42 = .ok (.iinc 2 1, 3) := by decide +kernel
theorem dM_search_45 : decode cM_search 45 = .ok (.goto (-22), 3) := by decide +kernel
theorem dM_search_48 : decode cM_search 48 = .ok (.aload_n 0, 1) := by decide +kernel
theorem dM_search_49 : decode cM_search 49 = .ok (.iconst 1, 1) := by decide +kernel
theorem dM_search_50 : decode cM_search 50 = .ok (.putfield 843, 3) := by decide +kernel
theorem dM_search_53 : decode cM_search 53 = .ok (.aload_n 0, 1) := by decide +kernel
theorem dM_search_54 : decode cM_search 54 = .ok (.iload_n 1, 1) := by decide +kernel
theorem dM_search_55 : decode cM_search 55 = .ok (.putfield 1060, 3) := by decide +kernel
theorem dM_search_58 : decode cM_search 58 = .ok (.aload_n 0, 1) := by decide +kernel
theorem dM_search_59 : decode cM_search 59 = .ok (.iconst 0, 1) := by decide +kernel
theorem dM_search_60 : decode cM_search 60 = .ok (.putfield 825, 3) := by decide +kernel
theorem dM_search_63 : decode cM_search 63 = .ok (.aload_n 0, 1) := by decide +kernel
theorem dM_search_64 : decode cM_search 64 = .ok (.iconst 0, 1) := by decide +kernel
theorem dM_search_65 : decode cM_search 65 = .ok (.putfield 1017, 3) := by decide +kernel
theorem dM_search_68 : decode cM_search 68 = .ok (.aload_n 0, 1) := by decide +kernel
theorem dM_search_69 : decode cM_search 69 = .ok (.iconst 0, 1) := by decide +kernel
theorem dM_search_70 : decode cM_search 70 = .ok (.putfield 1014, 3) := by decide +kernel
theorem dM_search_73 : decode cM_search 73 = .ok (.aload_n 0, 1) := by decide +kernel
theorem dM_search_74 : decode cM_search 74 = .ok (.invokevirtual 1078, 3) := by decide +kernel
theorem dM_search_77 : decode cM_search 77 = .ok (.aload_n 0, 1) := by decide +kernel
theorem dM_search_78 : decode cM_search 78 = .ok (.iconst (-1), 1) := by decide +kernel
theorem dM_search_79 : decode cM_search 79 = .ok (.iconst (-1), 1) := by decide +kernel
theorem dM_search_80 : decode cM_search 80 = .ok (.aload_n 0, 1) := by decide +kernel
theorem dM_search_81 : decode cM_search 81 = .ok (.invokevirtual 1054, 3) := by decide +kernel
theorem dM_search_84 : decode cM_search 84 = .ok (.invokevirtual 1066, 3) := by decide +kernel
theorem dM_search_87 : decode cM_search 87 = .ok (.iconst 0, 1) := by decide +kernel
theorem dM_search_88 : decode cM_search 88 = .ok (.istore_n 2, 1) := by decide +kernel
theorem dM_search_89 : decode cM_search 89 = .ok (.iload_n 2, 1) := by decide +kernel
theorem dM_search_90 : decode cM_search 90 = .ok (.aload_n 0, 1) := by decide +kernel
theorem dM_search_91 : decode cM_search 91 = .ok (.getfield 825, 3) := by decide +kernel
theorem dM_search_94 : decode cM_search 94 = .ok (.if_icmp .ge 88, 3) := by decide +kernel
theorem dM_search_97 : decode cM_search 97 = .ok (.aload_n 0, 1) := by decide +kernel
theorem dM_search_98 : decode cM_search 98 = .ok (.getfield 1014, 3) := by decide +kernel
theorem dM_search_101 : decode cM_search 101 = .ok (.ifCond .ne 81, 3) := by decide +kernel
theorem dM_search_104 : decode cM_search 104 = .ok (.aload_n 0, 1) := by decide +kernel
theorem dM_search_105 : decode cM_search 105 = .ok (.iconst 0, 1) := by decide +kernel
theorem dM_search_106 : decode cM_search 106 = .ok (.putfield 1063, 3) := by decide +kernel
theorem dM_search_109 : decode cM_search 109 = .ok (.aload_n 0, 1) := by decide +kernel
theorem dM_search_110 : decode cM_search 110 = .ok (.iconst 0, 1) := by decide +kernel
theorem dM_search_111 : decode cM_search 111 = .ok (.putfield 1048, 3) := by decide +kernel
theorem dM_search_114 : decode cM_search 114 = .ok (.aload_n 0, 1) := by decide +kernel
theorem dM_search_115 : decode cM_search 115 = .ok (.iconst 0, 1) := by decide +kernel
theorem dM_search_116 : decode cM_search 116 = .ok (.putfield 1051, 3) := by decide +kernel
theorem dM_search_119 : decode cM_search 119 = .ok (.aload_n 0, 1) := by decide +kernel
theorem dM_search_120 : decode cM_search 120 = .ok (.iload_n 2, 1) := by decide +kernel
theorem dM_search_121 : decode cM_search 121 = .ok (.invokevirtual 1081, 3) := by decide +kernel
theorem dM_search_124 : decode cM_search 124 = .ok (.aload_n 0, 1) := by decide +kernel
theorem dM_search_125 : decode cM_search 125 = .ok (.iload_n 2, 1) := by decide +kernel
theorem dM_search_126 : decode cM_search 126 = .ok (.invokevirtual 1084, 3) := by decide +kernel
theorem dM_search_129 : decode cM_search 129 = .ok (.aload_n 0, 1) := by decide +kernel
theorem dM_search_130 : decode cM_search 130 = .ok (.iload_n 2, 1) := by decide +kernel
theorem dM_search_131 : decode cM_search 131 = .ok (.invokevirtual 1087, 3) := by decide +kernel
theorem dM_search_134 : decode cM_search 134 = .ok (.aload_n 0, 1) := by decide +kernel
theorem dM_search_135 : decode cM_search 135 = .ok (.iload_n 2, 1) := by decide +kernel
theorem dM_search_136 : decode cM_search 136 = .ok (.invokevirtual 1090, 3) := by decide +kernel
theorem dM_search_139 : decode cM_search 139 = .ok (.aload_n 0, 1) := by decide +kernel
theorem dM_search_140 : decode cM_search 140 = .ok (.getfield 1014, 3) := by decide +kernel
theorem dM_search_143 : decode cM_search 143 = .ok (.ifCond .ne 33, 3) := by decide +kernel
theorem dM_search_146 : decode cM_search 146 = .ok (.aload_n 0, 1) := by decide +kernel
theorem dM_search_147 : decode cM_search 147 = .ok (.getfield 333, 3) := by decide +kernel
theorem dM_search_150 : decode cM_search 150 = .ok (.iload_n 2, 1) := by decide +kernel
theorem dM_search_151 : decode cM_search 151 = .ok (.aload_n 0, 1) := by decide +kernel
theorem dM_search_152 : decode cM_search 152 = .ok (.getfield 1063, 3) := by decide +kernel
theorem dM_search_155 : decode cM_search 155 = .ok (.iastore, 1) := by decide +kernel
theorem dM_search_156 : decode cM_search 156 = .ok (.aload_n 0, 1) := by decide +kernel
theorem dM_search_157 : decode cM_search 157 = .ok (.getfield 336, 3) := by decide +kernel
theorem dM_search_160 : decode cM_search 160 = .ok (.iload_n 2, 1) := by decide +kernel
theorem dM_search_161 : decode cM_search 161 = .ok (.aload_n 0, 1) := by decide +kernel
theorem dM_search_162 : decode cM_search 162 = .ok (.getfield 1048, 3) := by decide +kernel
theorem dM_search_165 : decode cM_search 165 = .ok (.iastore, 1) := by decide +kernel
theorem dM_search_166 : decode cM_search 166 = .ok (.aload_n 0, 1) := by decide +kernel
theorem dM_search_167 : decode cM_search 167 = .ok (.getfield 339, 3) := by decide +kernel
theorem dM_search_170 : decode cM_search 170 = .ok (.iload_n 2, 1) := by decide +kernel
theorem dM_search_171 : decode cM_search 171 = .ok (.aload_n 0, 1) := by decide +kernel
theorem dM_search_172 : decode cM_search 172 = .ok (.getfield 1051, 3) := by decide +kernel
theorem dM_search_175 : decode cM_search 175 = .ok (.iastore, 1) := by decide +kernel
theorem dM_search_176 : decode cM_search 176 = .ok (.iinc 2 1, 3) := by decide +kernel
theorem dM_search_179 : decode cM_search 179 = .ok (.goto (-90), 3) := by decide +kernel
theorem dM_search_182 : decode cM_search 182 = .ok (.aload_n 0, 1) := by decide +kernel
theorem dM_search_183 : decode cM_search 183 = .ok (.iconst 0, 1) := by decide +kernel
theorem dM_search_184 : decode cM_search 184 = .ok (.putfield 843, 3) := by decide +kernel
theorem dM_search_187 : decode cM_search 187 = .ok (.iconst 0, 1) := by decide +kernel
theorem dM_search_188 : decode cM_search 188 = .ok (.istore_n 2, 1) := by decide +kernel
theorem dM_search_189 : decode cM_search 189 = .ok (.iload_n 2, 1) := by decide +kernel
theorem dM_search_190 : decode cM_search 190 = .ok (.sipush 1104, 3) := by decide +kernel
theorem dM_search_193 : decode cM_search 193 = .ok (.if_icmp .ge 21, 3) := by decide +kernel
theorem dM_search_196 : decode cM_search 196 = .ok (.aload_n 0, 1) := by decide +kernel
theorem dM_search_197 : decode cM_search 197 = .ok (.getfield 299, 3) := by decide +kernel
theorem dM_search_200 : decode cM_search 200 = .ok (.iload_n 2, 1) := by decide +kernel
theorem dM_search_201 : decode cM_search 201 = .ok (.aload_n 0, 1) := by decide +kernel
theorem dM_search_202 : decode cM_search 202 = .ok (.getfield 321, 3) := by decide +kernel
theorem dM_search_205 : decode cM_search 205 = .ok (.iload_n 2, 1) := by decide +kernel
theorem dM_search_206 : decode cM_search 206 = .ok (.iaload, 1) := by decide +kernel
theorem dM_search_207 : decode cM_search 207 = .ok (.iastore, 1) := by decide +kernel
theorem dM_search_208 : decode cM_search 208 = .ok (.iinc 2 1, 3) := by decide +kernel
theorem dM_search_211 : decode cM_search 211 = .ok (.goto (-22), 3) := by decide +kernel
theorem dM_search_214 : decode cM_search 214 = .ok (.aload_n 0, 1) := by decide +kernel
theorem dM_search_215 : decode cM_search 215 = .ok (.getfield 825, 3) := by decide +kernel
theorem dM_search_218 : decode cM_search 218 = .ok (.ireturn, 1) := by decide +kernel
theorem dM_state_0 : decode cM_state 0 = .ok (.aload_n 0, 1) := by decide +kernel
theorem dM_state_1 : decode cM_state 1 = .ok (.getfield 822, 3) := by decide +kernel
theorem dM_state_4 : decode cM_state 4 = .ok (.ifCond .eq 15, 3) := by decide +kernel
theorem dM_state_7 : decode cM_state 7 = .ok (.iload_n 1, 1) := by decide +kernel
theorem dM_state_8 : decode cM_state 8 = .ok (.ifCond .lt 11, 3) := by decide +kernel
theorem dM_state_11 : decode cM_state 11 = .ok (.iload_n 1, 1) := by decide +kernel
theorem dM_state_12 : decode cM_state 12 = .ok (.aload_n 0, 1) := by decide +kernel
theorem dM_state_13 : decode cM_state 13 = .ok (.getfield 825, 3) := by decide +kernel
theorem dM_state_16 : decode cM_state 16 = .ok (.if_icmp .lt 5, 3) := by decide +kernel
theorem dM_state_19 : decode cM_state 19 = .ok (.iconst (-1), 1) := by decide +kernel
theorem dM_state_20 : decode cM_state 20 = .ok (.ireturn, 1) := by decide +kernel
theorem dM_state_21 : decode cM_state 21 = .ok (.iload_n 2, 1) := by decide +kernel
theorem dM_state_22 : decode cM_state 22 = .ok (.tableswitch 95 0 6 #[42, 49, 56, 63, 70, 77, 84], 42) := by decide +kernel
theorem dM_state_64 : decode cM_state 64 = .ok (.aload_n 0, 1) := by decide +kernel
theorem dM_state_65 : decode cM_state 65 = .ok (.getfield 324, 3) := by decide +kernel
theorem dM_state_68 : decode cM_state 68 = .ok (.iload_n 1, 1) := by decide +kernel
theorem dM_state_69 : decode cM_state 69 = .ok (.iaload, 1) := by decide +kernel
theorem dM_state_70 : decode cM_state 70 = .ok (.ireturn, 1) := by decide +kernel
theorem dM_state_71 : decode cM_state 71 = .ok (.aload_n 0, 1) := by decide +kernel
theorem dM_state_72 : decode cM_state 72 = .ok (.getfield 327, 3) := by decide +kernel
theorem dM_state_75 : decode cM_state 75 = .ok (.iload_n 1, 1) := by decide +kernel
theorem dM_state_76 : decode cM_state 76 = .ok (.iaload, 1) := by decide +kernel
theorem dM_state_77 : decode cM_state 77 = .ok (.ireturn, 1) := by decide +kernel
theorem dM_state_78 : decode cM_state 78 = .ok (.aload_n 0, 1) := by decide +kernel
theorem dM_state_79 : decode cM_state 79 = .ok (.getfield 330, 3) := by decide +kernel
theorem dM_state_82 : decode cM_state 82 = .ok (.iload_n 1, 1) := by decide +kernel
theorem dM_state_83 : decode cM_state 83 = .ok (.iaload, 1) := by decide +kernel
theorem dM_state_84 : decode cM_state 84 = .ok (.ireturn, 1) := by decide +kernel
theorem dM_state_85 : decode cM_state 85 = .ok (.aload_n 0, 1) := by decide +kernel
theorem dM_state_86 : decode cM_state 86 = .ok (.getfield 333, 3) := by decide +kernel
theorem dM_state_89 : decode cM_state 89 = .ok (.iload_n 1, 1) := by decide +kernel
theorem dM_state_90 : decode cM_state 90 = .ok (.iaload, 1) := by decide +kernel
theorem dM_state_91 : decode cM_state 91 = .ok (.ireturn, 1) := by decide +kernel
theorem dM_state_92 : decode cM_state 92 = .ok (.aload_n 0, 1) := by decide +kernel
theorem dM_state_93 : decode cM_state 93 = .ok (.getfield 336, 3) := by decide +kernel
theorem dM_state_96 : decode cM_state 96 = .ok (.iload_n 1, 1) := by decide +kernel
theorem dM_state_97 : decode cM_state 97 = .ok (.iaload, 1) := by decide +kernel
theorem dM_state_98 : decode cM_state 98 = .ok (.ireturn, 1) := by decide +kernel
theorem dM_state_99 : decode cM_state 99 = .ok (.aload_n 0, 1) := by decide +kernel
theorem dM_state_100 : decode cM_state 100 = .ok (.getfield 339, 3) := by decide +kernel
theorem dM_state_103 : decode cM_state 103 = .ok (.iload_n 1, 1) := by decide +kernel
theorem dM_state_104 : decode cM_state 104 = .ok (.iaload, 1) := by decide +kernel
theorem dM_state_105 : decode cM_state 105 = .ok (.ireturn, 1) := by decide +kernel
theorem dM_state_106 : decode cM_state 106 = .ok (.aload_n 0, 1) := by decide +kernel
theorem dM_state_107 : decode cM_state 107 = .ok (.getfield 318, 3) := by decide +kernel
theorem dM_state_110 : decode cM_state 110 = .ok (.sipush 1104, 3) := by decide +kernel
theorem dM_state_113 : decode cM_state 113 = .ok (.iload_n 1, 1) := by decide +kernel
theorem dM_state_114 : decode cM_state 114 = .ok (.imul, 1) := by decide +kernel
theorem dM_state_115 : decode cM_state 115 = .ok (.iaload, 1) := by decide +kernel
theorem dM_state_116 : decode cM_state 116 = .ok (.ireturn, 1) := by decide +kernel
theorem dM_state_117 : decode cM_state 117 = .ok (.iconst (-1), 1) := by decide +kernel
theorem dM_state_118 : decode cM_state 118 = .ok (.ireturn, 1) := by decide +kernel
theorem dM_first_0 : decode cM_first 0 = .ok (.aload_n 0, 1) := by decide +kernel
theorem dM_first_1 : decode cM_first 1 = .ok (.getfield 822, 3) := by decide +kernel
theorem dM_first_4 : decode cM_first 4 = .ok (.ifCond .eq 12, 3) := by decide +kernel
theorem dM_first_7 : decode cM_first 7 = .ok (.iload_n 1, 1) := by decide +kernel
theorem dM_first_8 : decode cM_first 8 = .ok (.ifCond .lt 8, 3) := by decide +kernel
theorem dM_first_11 : decode cM_first 11 = .ok (.iload_n 1, 1) := by decide +kernel
theorem dM_first_12 : decode cM_first 12 = .ok (.iconst 4, 1) := by decide +kernel
theorem dM_first_13 : decode cM_first 13 = .ok (.if_icmp .le 5, 3) := by decide +kernel
theorem dM_first_16 : decode cM_first 16 = .ok (.iconst (-1), 1) := by decide +kernel
theorem dM_first_17 : decode cM_first 17 = .ok (.ireturn, 1) := by decide +kernel
theorem dM_first_18 : decode cM_first 18 = .ok (.iload_n 1, 1) := by decide +kernel
theorem dM_first_19 : decode cM_first 19 = .ok (.iconst 4, 1) := by decide +kernel
theorem dM_first_20 : decode cM_first 20 = .ok (.if_icmp .ne 32, 3) := by decide +kernel
theorem dM_first_23 : decode cM_first 23 = .ok (.iload_n 2, 1) := by decide +kernel
theorem dM_first_24 : decode cM_first 24 = .ok (.ifCond .lt 26, 3) := by decide +kernel
theorem dM_first_27 : decode cM_first 27 = .ok (.iload_n 2, 1) := by decide +kernel
theorem dM_first_28 : decode cM_first 28 = .ok (.aload_n 0, 1) := by decide +kernel
theorem dM_first_29 : decode cM_first 29 = .ok (.getfield 495, 3) := by decide +kernel
theorem dM_first_32 : decode cM_first 32 = .ok (.if_icmp .ge 18, 3) := by decide +kernel
theorem dM_first_35 : decode cM_first 35 = .ok (.iload_n 3, 1) := by decide +kernel
theorem dM_first_36 : decode cM_first 36 = .ok (.iconst (-1), 1) := by decide +kernel
theorem dM_first_37 : decode cM_first 37 = .ok (.if_icmp .lt 13, 3) := by decide +kernel
theorem dM_first_40 : decode cM_first 40 = .ok (.iload_n 3, 1) := by decide +kernel
theorem dM_first_41 : decode cM_first 41 = .ok (.aload_n 0, 1) := by decide +kernel
theorem dM_first_42 : decode cM_first 42 = .ok (.getfield 100, 3) := by decide +kernel
theorem dM_first_45 : decode cM_first 45 = .ok (.iload_n 2, 1) := by decide +kernel
theorem dM_first_46 : decode cM_first 46 = .ok (.iaload, 1) := by decide +kernel
theorem dM_first_47 : decode cM_first 47 = .ok (.if_icmp .lt 5, 3) := by decide +kernel
theorem dM_first_50 : decode cM_first 50 = .ok (.iconst (-1), 1) := by decide +kernel
theorem dM_first_51 : decode cM_first 51 = .ok (.ireturn, 1) := by decide +kernel
theorem dM_first_52 : decode cM_first 52 = .ok (.iconst 0, 1) := by decide +kernel
theorem dM_first_53 : decode cM_first 53 = .ok (.istore 4, 2) := by decide +kernel
theorem dM_first_55 : decode cM_first 55 = .ok (.iload 4, 2) := by decide +kernel
theorem dM_first_57 : decode cM_first 57 = .ok (.aload_n 0, 1) := by decide +kernel
theorem dM_first_58 : decode cM_first 58 = .ok (.getfield 825, 3) := by decide +kernel
theorem dM_first_61 : decode cM_first 61 = .ok (.if_icmp .ge 127, 3) := by decide +kernel
theorem dM_first_64 : decode cM_first 64 = .ok (.iload_n 1, 1) := by decide +kernel
theorem dM_first_65 : decode cM_first 65 = .ok (.ifCond .ne 21, 3) := by decide +kernel
theorem dM_first_68 : decode cM_first 68 = .ok (.aload_n 0, 1) := by decide +kernel
theorem dM_first_69 : decode cM_first 69 = .ok (.getfield 333, 3) := by decide +kernel
theorem dM_first_72 : decode cM_first 72 = .ok (.iload 4, 2) := by decide +kernel
theorem dM_first_74 : decode cM_first 74 = .ok (.iaload, 1) := by decide +kernel
theorem dM_first_75 : decode cM_first 75 = .ok (.ifCond .ne 7, 3) := by decide +kernel
theorem dM_first_78 : decode cM_first 78 = .ok (.iconst 1, 1) := by decide +kernel
theorem dM_first_79 : decode cM_first 79 = .ok (.goto 93, 3) := by decide +kernel
theorem dM_first_82 : decode cM_first 82 = .ok (.iconst 0, 1) := by decide +kernel
theorem dM_first_83 : decode cM_first 83 = .ok (.goto 89, 3) := by decide +kernel
theorem dM_first_86 : decode cM_first 86 = .ok (.iload_n 1, 1) := by decide +kernel
theorem dM_first_87 : decode cM_first 87 = .ok (.iconst 1, 1) := by decide +kernel
theorem dM_first_88 : decode cM_first 88 = .ok (.if_icmp .ne 30, 3) := by decide +kernel
theorem dM_first_91 : decode cM_first 91 = .ok (.aload_n 0, 1) := by decide +kernel
theorem dM_first_92 : decode cM_first 92 = .ok (.getfield 333, 3) := by decide +kernel
theorem dM_first_95 : decode cM_first 95 = .ok (.iload 4, 2) := by decide +kernel
theorem dM_first_97 : decode cM_first 97 = .ok (.iaload, 1) := by decide +kernel
theorem dM_first_98 : decode cM_first 98 = .ok (.ifCond .ne 16, 3) := by decide +kernel
theorem dM_first_101 : decode cM_first 101 = .ok (.aload_n 0, 1) := by decide +kernel
theorem dM_first_102 : decode cM_first 102 = .ok (.iload 4, 2) := by decide +kernel
theorem dM_first_104 : decode cM_first 104 = .ok (.invokevirtual 1093, 3) := by decide +kernel
theorem dM_first_107 : decode cM_first 107 = .ok (.ifCond .eq 7, 3) := by decide +kernel
theorem dM_first_110 : decode cM_first 110 = .ok (.iconst 1, 1) := by decide +kernel
theorem dM_first_111 : decode cM_first 111 = .ok (.goto 61, 3) := by decide +kernel
theorem dM_first_114 : decode cM_first 114 = .ok (.iconst 0, 1) := by decide +kernel
theorem dM_first_115 : decode cM_first 115 = .ok (.goto 57, 3) := by decide +kernel
theorem dM_first_118 : decode cM_first 118 = .ok (.iload_n 1, 1) := by decide +kernel
theorem dM_first_119 : decode cM_first 119 = .ok (.iconst 2, 1) := by decide +kernel
theorem dM_first_120 : decode cM_first 120 = .ok (.if_icmp .ne 21, 3) := by decide +kernel
theorem dM_first_123 : decode cM_first 123 = .ok (.aload_n 0, 1) := by decide +kernel
theorem dM_first_124 : decode cM_first 124 = .ok (.getfield 336, 3) := by decide +kernel
theorem dM_first_127 : decode cM_first 127 = .ok (.iload 4, 2) := by decide +kernel
theorem dM_first_129 : decode cM_first 129 = .ok (.iaload, 1) := by decide +kernel
theorem dM_first_130 : decode cM_first 130 = .ok (.ifCond .le 7, 3) := by decide +kernel
theorem dM_first_133 : decode cM_first 133 = .ok (.iconst 1, 1) := by decide +kernel
theorem dM_first_134 : decode cM_first 134 = .ok (.goto 38, 3) := by decide +kernel
theorem dM_first_137 : decode cM_first 137 = .ok (.iconst 0, 1) := by decide +kernel
theorem dM_first_138 : decode cM_first 138 = .ok (.goto 34, 3) := by decide +kernel
theorem dM_first_141 : decode cM_first 141 = .ok (.iload_n 1, 1) := by decide +kernel
theorem dM_first_142 : decode cM_first 142 = .ok (.iconst 3, 1) := by decide +kernel
theorem dM_first_143 : decode cM_first 143 = .ok (.if_icmp .ne 21, 3) := by decide +kernel
theorem dM_first_146 : decode cM_first 146 = .ok (.aload_n 0, 1) := by decide +kernel
theorem dM_first_147 : decode cM_first 147 = .ok (.getfield 339, 3) := by decide +kernel
theorem dM_first_150 : decode cM_first 150 = .ok (.iload 4, 2) := by decide +kernel
theorem dM_first_152 : decode cM_first 152 = .ok (.iaload, 1) := by decide +kernel
theorem dM_first_153 : decode cM_first 153 = .ok (.ifCond .le 7, 3) := by decide +kernel
theorem dM_first_156 : decode cM_first 156 = .ok (.iconst 1, 1) := by decide +kernel
theorem dM_first_157 : decode cM_first 157 = .ok (.goto 15, 3) := by decide +kernel
theorem dM_first_160 : decode cM_first 160 = .ok (.iconst 0, 1) := by decide +kernel
theorem dM_first_161 : decode cM_first 161 = .ok (.goto 11, 3) := by decide +kernel
theorem dM_first_164 : decode cM_first 164 = .ok (.aload_n 0, 1) := by decide +kernel
theorem dM_first_165 : decode cM_first 165 = .ok (.iload 4, 2) := by decide +kernel
theorem dM_first_167 : decode cM_first 167 = .ok (.iload_n 2, 1) := by decide +kernel
theorem dM_first_168 : decode cM_first 168 = .ok (.iload_n 3, 1) := by decide +kernel
theorem dM_first_169 : decode cM_first 169 = .ok (.invokevirtual 1096, 3) := by decide +kernel
theorem dM_first_172 : decode cM_first 172 = .ok (.istore 5, 2) := by decide +kernel
theorem dM_first_174 : decode cM_first 174 = .ok (.iload 5, 2) := by decide +kernel
theorem dM_first_176 : decode cM_first 176 = .ok (.ifCond .eq 6, 3) := by decide +kernel
theorem dM_first_179 : decode cM_first 179 = .ok (.iload 4, 2) := by decide +kernel
theorem dM_first_181 : decode cM_first 181 = .ok (.ireturn, 1) := by decide +kernel
theorem dM_first_182 : decode cM_first 182 = .ok (.iinc 4 1, 3) := by decide +kernel
theorem dM_first_185 : decode cM_first 185 = .ok (.goto (-130), 3) := by decide +kernel
theorem dM_first_188 : decode cM_first 188 = .ok (.iconst (-1), 1) := by decide +kernel
theorem dM_first_189 : decode cM_first 189 = .ok (.ireturn, 1) := by decide +kernel
theorem dM_visit_0 : decode cM_visit 0 = .ok (.aload_n 0, 1) := by decide +kernel
theorem dM_visit_1 : decode cM_visit 1 = .ok (.getfield 822, 3) := by decide +kernel
theorem dM_visit_4 : decode cM_visit 4 = .ok (.ifCond .ne 5, 3) := by decide +kernel
theorem dM_visit_7 : decode cM_visit 7 = .ok (.iconst (-1), 1) := by decide +kernel
theorem dM_visit_8 : decode cM_visit 8 = .ok (.ireturn, 1) := by decide +kernel
theorem dM_visit_9 : decode cM_visit 9 = .ok (.iload_n 1, 1) := by decide +kernel
theorem dM_visit_10 : decode cM_visit 10 = .ok (.ifCond .lt 11, 3) := by decide +kernel
theorem dM_visit_13 : decode cM_visit 13 = .ok (.iload_n 1, 1) := by decide +kernel
theorem dM_visit_14 : decode cM_visit 14 = .ok (.aload_n 0, 1) := by decide +kernel
theorem dM_visit_15 : decode cM_visit 15 = .ok (.getfield 825, 3) := by decide +kernel
theorem dM_visit_18 : decode cM_visit 18 = .ok (.if_icmp .lt 5, 3) := by decide +kernel
theorem dM_visit_21 : decode cM_visit 21 = .ok (.iconst 0, 1) := by decide +kernel
theorem dM_visit_22 : decode cM_visit 22 = .ok (.ireturn, 1) := by decide +kernel
theorem dM_visit_23 : decode cM_visit 23 = .ok (.aload_n 0, 1) := by decide +kernel
theorem dM_visit_24 : decode cM_visit 24 = .ok (.iload_n 1, 1) := by decide +kernel
theorem dM_visit_25 : decode cM_visit 25 = .ok (.invokevirtual 1069, 3) := by decide +kernel
theorem dM_visit_28 : decode cM_visit 28 = .ok (.iconst 0, 1) := by decide +kernel
theorem dM_visit_29 : decode cM_visit 29 = .ok (.istore_n 2, 1) := by decide +kernel
theorem dM_visit_30 : decode cM_visit 30 = .ok (.iload_n 2, 1) := by decide +kernel
theorem dM_visit_31 : decode cM_visit 31 = .ok (.aload_n 0, 1) := by decide +kernel
theorem dM_visit_32 : decode cM_visit 32 = .ok (.getfield 492, 3) := by decide +kernel
theorem dM_visit_35 : decode cM_visit 35 = .ok (.if_icmp .ge 52, 3) := by decide +kernel
theorem dM_visit_38 : decode cM_visit 38 = .ok (.iconst 0, 1) := by decide +kernel
theorem dM_visit_39 : decode cM_visit 39 = .ok (.istore_n 3, 1) := by decide +kernel
theorem dM_visit_40 : decode cM_visit 40 = .ok (.iload_n 3, 1) := by decide +kernel
theorem dM_visit_41 : decode cM_visit 41 = .ok (.aload_n 0, 1) := by decide +kernel
theorem dM_visit_42 : decode cM_visit 42 = .ok (.getfield 299, 3) := by decide +kernel
theorem dM_visit_45 : decode cM_visit 45 = .ok (.iload_n 2, 1) := by decide +kernel
theorem dM_visit_46 : decode cM_visit 46 = .ok (.invokestatic 886, 3) := by decide +kernel
theorem dM_visit_49 : decode cM_visit 49 = .ok (.iaload, 1) := by decide +kernel
theorem dM_visit_50 : decode cM_visit 50 = .ok (.if_icmp .ge 31, 3) := by decide +kernel
theorem dM_visit_53 : decode cM_visit 53 = .ok (.aload_n 0, 1) := by decide +kernel
theorem dM_visit_54 : decode cM_visit 54 = .ok (.getfield 299, 3) := by decide +kernel
theorem dM_visit_57 : decode cM_visit 57 = .ok (.iload_n 2, 1) := by decide +kernel
theorem dM_visit_58 : decode cM_visit 58 = .ok (.invokestatic 886, 3) := by decide +kernel
theorem dM_visit_61 : decode cM_visit 61 = .ok (.iconst 1, 1) := by decide +kernel
theorem dM_visit_62 : decode cM_visit 62 = .ok (.iadd, 1) := by decide +kernel
theorem dM_visit_63 : decode cM_visit 63 = .ok (.bipush 7, 2) := by decide +kernel
theorem dM_visit_65 : decode cM_visit 65 = .ok (.iload_n 3, 1) := by decide +kernel
theorem dM_visit_66 : decode cM_visit 66 = .ok (.imul, 1) := by decide +kernel
theorem dM_visit_67 : decode cM_visit 67 = .ok (.iadd, 1) := by decide +kernel
theorem dM_visit_68 : decode cM_visit 68 = .ok (.iconst 3, 1) := by decide +kernel
theorem dM_visit_69 : decode cM_visit 69 = .ok (.iadd, 1) := by decide +kernel
theorem dM_visit_70 : decode cM_visit 70 = .ok (.aload_n 0, 1) := by decide +kernel
theorem dM_visit_71 : decode cM_visit 71 = .ok (.getfield 877, 3) := by decide +kernel
theorem dM_visit_74 : decode cM_visit 74 = .ok (.iastore, 1) := by decide +kernel
theorem dM_visit_75 : decode cM_visit 75 = .ok (.iinc 3 1, 3) := by decide +kernel
theorem dM_visit_78 : decode cM_visit 78 = .ok (.goto (-38), 3) := by decide +kernel
theorem dM_visit_81 : decode cM_visit 81 = .ok (.iinc 2 1, 3) := by decide +kernel
theorem dM_visit_84 : decode cM_visit 84 = .ok (.goto (-54), 3) := by decide +kernel
theorem dM_visit_87 : decode cM_visit 87 = .ok (.iconst 0, 1) := by decide +kernel
theorem dM_visit_88 : decode cM_visit 88 = .ok (.istore_n 2, 1) := by decide +kernel
theorem dM_visit_89 : decode cM_visit 89 = .ok (.iload_n 2, 1) := by decide +kernel
theorem dM_visit_90 : decode cM_visit 90 = .ok (.aload_n 0, 1) := by decide +kernel
theorem dM_visit_91 : decode cM_visit 91 = .ok (.getfield 299, 3) := by decide +kernel
theorem dM_visit_94 : decode cM_visit 94 = .ok (.iconst 0, 1) := by decide +kernel
theorem dM_visit_95 : decode cM_visit 95 = .ok (.iaload, 1) := by decide +kernel
theorem dM_visit_96 : decode cM_visit 96 = .ok (.if_icmp .ge 57, 3) := by decide +kernel
theorem dM_visit_99 : decode cM_visit 99 = .ok (.iconst 0, 1) := by decide +kernel
theorem dM_visit_100 : decode cM_visit 100 = .ok (.istore_n 3, 1) := by decide +kernel
theorem dM_visit_101 : decode cM_visit 101 = .ok (.iload_n 3, 1) := by decide +kernel
theorem dM_visit_102 : decode cM_visit 102 = .ok (.iconst 3, 1) := by decide +kernel
theorem dM_visit_103 : decode cM_visit 103 = .ok (.if_icmp .ge 44, 3) := by decide +kernel
theorem dM_visit_106 : decode cM_visit 106 = .ok (.aload_n 0, 1) := by decide +kernel
theorem dM_visit_107 : decode cM_visit 107 = .ok (.getfield 299, 3) := by decide +kernel
theorem dM_visit_110 : decode cM_visit 110 = .ok (.iload_n 2, 1) := by decide +kernel
theorem dM_visit_111 : decode cM_visit 111 = .ok (.invokestatic 840, 3) := by decide +kernel
theorem dM_visit_114 : decode cM_visit 114 = .ok (.bipush 22, 2) := by decide +kernel
theorem dM_visit_116 : decode cM_visit 116 = .ok (.iadd, 1) := by decide +kernel
theorem dM_visit_117 : decode cM_visit 117 = .ok (.iload_n 3, 1) := by decide +kernel
theorem dM_visit_118 : decode cM_visit 118 = .ok (.iadd, 1) := by decide +kernel
theorem dM_visit_119 : decode cM_visit 119 = .ok (.iaload, 1) := by decide +kernel
theorem dM_visit_120 : decode cM_visit 120 = .ok (.ifCond .lt 21, 3) := by decide +kernel
theorem dM_visit_123 : decode cM_visit 123 = .ok (.aload_n 0, 1) := by decide +kernel
theorem dM_visit_124 : decode cM_visit 124 = .ok (.getfield 299, 3) := by decide +kernel
theorem dM_visit_127 : decode cM_visit 127 = .ok (.iload_n 2, 1) := by decide +kernel
theorem dM_visit_128 : decode cM_visit 128 = .ok (.invokestatic 840, 3) := by decide +kernel
theorem dM_visit_131 : decode cM_visit 131 = .ok (.bipush 22, 2) := by decide +kernel
theorem dM_visit_133 : decode cM_visit 133 = .ok (.iadd, 1) := by decide +kernel
theorem dM_visit_134 : decode cM_visit 134 = .ok (.iload_n 3, 1) := by decide +kernel
theorem dM_visit_135 : decode cM_visit 135 = .ok (.iadd, 1) := by decide +kernel
theorem dM_visit_136 : decode cM_visit 136 = .ok (.aload_n 0, 1) := by decide +kernel
theorem dM_visit_137 : decode cM_visit 137 = .ok (.getfield 877, 3) := by decide +kernel
theorem dM_visit_140 : decode cM_visit 140 = .ok (.iastore, 1) := by decide +kernel
theorem dM_visit_141 : decode cM_visit 141 = .ok (.iinc 3 1, 3) := by decide +kernel
theorem dM_visit_144 : decode cM_visit 144 = .ok (.goto (-43), 3) := by decide +kernel
theorem dM_visit_147 : decode cM_visit 147 = .ok (.iinc 2 1, 3) := by decide +kernel
theorem dM_visit_150 : decode cM_visit 150 = .ok (.goto (-61), 3) := by decide +kernel
theorem dM_visit_153 : decode cM_visit 153 = .ok (.aload_n 0, 1) := by decide +kernel
theorem dM_visit_154 : decode cM_visit 154 = .ok (.iconst 0, 1) := by decide +kernel
theorem dM_visit_155 : decode cM_visit 155 = .ok (.putfield 1008, 3) := by decide +kernel
theorem dM_visit_158 : decode cM_visit 158 = .ok (.iconst 1, 1) := by decide +kernel
theorem dM_visit_159 : decode cM_visit 159 = .ok (.ireturn, 1) := by decide +kernel
theorem dM_chart_0 : decode cM_chart 0 = .ok (.iload_n 1, 1) := by decide +kernel
theorem dM_chart_1 : decode cM_chart 1 = .ok (.ifCond .lt 11, 3) := by decide +kernel
theorem dM_chart_4 : decode cM_chart 4 = .ok (.iload_n 1, 1) := by decide +kernel
theorem dM_chart_5 : decode cM_chart 5 = .ok (.aload_n 0, 1) := by decide +kernel
theorem dM_chart_6 : decode cM_chart 6 = .ok (.getfield 402, 3) := by decide +kernel
theorem dM_chart_9 : decode cM_chart 9 = .ok (.if_icmp .le 6, 3) := by decide +kernel
theorem dM_chart_12 : decode cM_chart 12 = .ok (.bipush (-2), 2) := by decide +kernel
theorem dM_chart_14 : decode cM_chart 14 = .ok (.ireturn, 1) := by decide +kernel
theorem dM_chart_15 : decode cM_chart 15 = .ok (.aload_n 0, 1) := by decide +kernel
theorem dM_chart_16 : decode cM_chart 16 = .ok (.iload_n 1, 1) := by decide +kernel
theorem dM_chart_17 : decode cM_chart 17 = .ok (.invokevirtual 810, 3) := by decide +kernel
theorem dM_chart_20 : decode cM_chart 20 = .ok (.aload_n 0, 1) := by decide +kernel
theorem dM_chart_21 : decode cM_chart 21 = .ok (.getfield 822, 3) := by decide +kernel
theorem dM_chart_24 : decode cM_chart 24 = .ok (.ifCond .ne 5, 3) := by decide +kernel
theorem dM_chart_27 : decode cM_chart 27 = .ok (.iconst (-1), 1) := by decide +kernel
theorem dM_chart_28 : decode cM_chart 28 = .ok (.ireturn, 1) := by decide +kernel
theorem dM_chart_29 : decode cM_chart 29 = .ok (.aload_n 0, 1) := by decide +kernel
theorem dM_chart_30 : decode cM_chart 30 = .ok (.iconst 0, 1) := by decide +kernel
theorem dM_chart_31 : decode cM_chart 31 = .ok (.putfield 444, 3) := by decide +kernel
theorem dM_chart_34 : decode cM_chart 34 = .ok (.aload_n 0, 1) := by decide +kernel
theorem dM_chart_35 : decode cM_chart 35 = .ok (.iconst 0, 1) := by decide +kernel
theorem dM_chart_36 : decode cM_chart 36 = .ok (.putfield 457, 3) := by decide +kernel
theorem dM_chart_39 : decode cM_chart 39 = .ok (.aload_n 0, 1) := by decide +kernel
theorem dM_chart_40 : decode cM_chart 40 = .ok (.invokevirtual 801, 3) := by decide +kernel
theorem dM_chart_43 : decode cM_chart 43 = .ok (.aload_n 0, 1) := by decide +kernel
theorem dM_chart_44 : decode cM_chart 44 = .ok (.invokevirtual 1160, 3) := by decide +kernel
theorem dM_chart_47 : decode cM_chart 47 = .ok (.aload_n 0, 1) := by decide +kernel
theorem dM_chart_48 : decode cM_chart 48 = .ok (.getfield 444, 3) := by decide +kernel
theorem dM_chart_51 : decode cM_chart 51 = .ok (.ifCond .ne 17, 3) := by decide +kernel
theorem dM_chart_54 : decode cM_chart 54 = .ok (.aload_n 0, 1) := by decide +kernel
theorem dM_chart_55 : decode cM_chart 55 = .ok (.iconst 1, 1) := by decide +kernel
theorem dM_chart_56 : decode cM_chart 56 = .ok (.putfield 457, 3) := by decide +kernel
theorem dM_chart_59 : decode cM_chart 59 = .ok (.aload_n 0, 1) := by decide +kernel
theorem dM_chart_60 : decode cM_chart 60 = .ok (.invokevirtual 1160, 3) := by decide +kernel
theorem dM_chart_63 : decode cM_chart 63 = .ok (.aload_n 0, 1) := by decide +kernel
theorem dM_chart_64 : decode cM_chart 64 = .ok (.iconst 0, 1) := by decide +kernel
theorem dM_chart_65 : decode cM_chart 65 = .ok (.putfield 457, 3) := by decide +kernel
theorem dM_chart_68 : decode cM_chart 68 = .ok (.aload_n 0, 1) := by decide +kernel
theorem dM_chart_69 : decode cM_chart 69 = .ok (.getfield 444, 3) := by decide +kernel
theorem dM_chart_72 : decode cM_chart 72 = .ok (.ifCond .le 19, 3) := by decide +kernel
theorem dM_chart_75 : decode cM_chart 75 = .ok (.aload_n 0, 1) := by decide +kernel
theorem dM_chart_76 : decode cM_chart 76 = .ok (.aload_n 0, 1) := by decide +kernel
theorem dM_chart_77 : decode cM_chart 77 = .ok (.getfield 447, 3) := by decide +kernel
theorem dM_chart_80 : decode cM_chart 80 = .ok (.putfield 283, 3) := by decide +kernel
theorem dM_chart_83 : decode cM_chart 83 = .ok (.bipush (-10), 2) := by decide +kernel
theorem dM_chart_85 : decode cM_chart 85 = .ok (.aload_n 0, 1) := by decide +kernel
theorem dM_chart_86 : decode cM_chart 86 = .ok (.getfield 444, 3) := by decide +kernel
theorem dM_chart_89 : decode cM_chart 89 = .ok (.isub, 1) := by decide +kernel
theorem dM_chart_90 : decode cM_chart 90 = .ok (.ireturn, 1) := by decide +kernel
theorem dM_chart_91 : decode cM_chart 91 = .ok (.aload_n 0, 1) := by decide +kernel
theorem dM_chart_92 : decode cM_chart 92 = .ok (.invokevirtual 1163, 3) := by decide +kernel
theorem dM_chart_95 : decode cM_chart 95 = .ok (.aload_n 0, 1) := by decide +kernel
theorem dM_chart_96 : decode cM_chart 96 = .ok (.getfield 1151, 3) := by decide +kernel
theorem dM_chart_99 : decode cM_chart 99 = .ok (.ifCond .le 7, 3) := by decide +kernel
theorem dM_chart_102 : decode cM_chart 102 = .ok (.iconst 1, 1) := by decide +kernel
theorem dM_chart_103 : decode cM_chart 103 = .ok (.goto 4, 3) := by decide +kernel
theorem dM_chart_106 : decode cM_chart 106 = .ok (.iconst 0, 1) := by decide +kernel
theorem dM_chart_107 : decode cM_chart 107 = .ok (.ireturn, 1) := by decide +kernel
theorem dM_choices_0 : decode cM_choices 0 = .ok (.iload_n 1, 1) := by decide +kernel
theorem dM_choices_1 : decode cM_choices 1 = .ok (.ifCond .ne 10, 3) := by decide +kernel
theorem dM_choices_4 : decode cM_choices 4 = .ok (.aload_n 0, 1) := by decide +kernel
theorem dM_choices_5 : decode cM_choices 5 = .ok (.getfield 1148, 3) := by decide +kernel
theorem dM_choices_8 : decode cM_choices 8 = .ok (.goto 16, 3) := by decide +kernel
theorem dM_choices_11 : decode cM_choices 11 = .ok (.iload_n 1, 1) := by decide +kernel
theorem dM_choices_12 : decode cM_choices 12 = .ok (.iconst 1, 1) := by decide +kernel
theorem dM_choices_13 : decode cM_choices 13 = .ok (.if_icmp .ne 10, 3) := by decide +kernel
theorem dM_choices_16 : decode cM_choices 16 = .ok (.aload_n 0, 1) := by decide +kernel
theorem dM_choices_17 : decode cM_choices 17 = .ok (.getfield 1151, 3) := by decide +kernel
theorem dM_choices_20 : decode cM_choices 20 = .ok (.goto 4, 3) := by decide +kernel
theorem dM_choices_23 : decode cM_choices 23 = .ok (.iconst (-1), 1) := by decide +kernel
theorem dM_choices_24 : decode cM_choices 24 = .ok (.ireturn, 1) := by decide +kernel
theorem vM_instance_1042 : OkV RM 1042 yM_slotAsked cM_slotAsked 2 (some .int) 1 := ⟨aw_v (tm 3363 (by decide +kernel) rfl) (tm 3365 (by decide +kernel) rfl) (tm 270 (by decide +kernel) rfl) (tm 302 (by decide +kernel) rfl) (tm 3366 (by decide +kernel) rfl), by decide +kernel, by decide +kernel, by decide +kernel⟩
theorem vM_cell_1042 : OkV RM 1042 yM_slotAsked cM_slotAsked 2 (some .int) 1 := ⟨aw_v (tm 3363 (by decide +kernel) rfl) (tm 3365 (by decide +kernel) rfl) (tm 270 (by decide +kernel) rfl) (tm 302 (by decide +kernel) rfl) (tm 3366 (by decide +kernel) rfl), by decide +kernel, by decide +kernel, by decide +kernel⟩
theorem vM_timer_1042 : OkV RM 1042 yM_slotAsked cM_slotAsked 2 (some .int) 1 := ⟨aw_v (tm 3363 (by decide +kernel) rfl) (tm 3365 (by decide +kernel) rfl) (tm 270 (by decide +kernel) rfl) (tm 302 (by decide +kernel) rfl) (tm 3366 (by decide +kernel) rfl), by decide +kernel, by decide +kernel, by decide +kernel⟩
theorem vM_queued_1042 : OkV RM 1042 yM_slotAsked cM_slotAsked 2 (some .int) 1 := ⟨aw_v (tm 3363 (by decide +kernel) rfl) (tm 3365 (by decide +kernel) rfl) (tm 270 (by decide +kernel) rfl) (tm 302 (by decide +kernel) rfl) (tm 3366 (by decide +kernel) rfl), by decide +kernel, by decide +kernel, by decide +kernel⟩
theorem vM_feed_405 : OkV RM 405 yM_four cM_four 3 none 1 := ⟨aw_v (tm 2737 (by decide +kernel) rfl) (tm 2739 (by decide +kernel) rfl) (tm 130 (by decide +kernel) rfl) (tm 302 (by decide +kernel) rfl) (tm 2740 (by decide +kernel) rfl), by decide +kernel, by decide +kernel, by decide +kernel⟩
theorem vM_wrong_453 : OkV RM 453 yM_breaks cM_breaks 3 none 2 := ⟨aw_v (tm 2803 (by decide +kernel) rfl) (tm 2805 (by decide +kernel) rfl) (tm 145 (by decide +kernel) rfl) (tm 302 (by decide +kernel) rfl) (tm 2806 (by decide +kernel) rfl), by decide +kernel, by decide +kernel, by decide +kernel⟩
theorem vM_cut_421 : OkV RM 421 yM_behindBlanks cM_behindBlanks 5 (some .int) 1 := ⟨aw_v (tm 2757 (by decide +kernel) rfl) (tm 2759 (by decide +kernel) rfl) (tm 134 (by decide +kernel) rfl) (tm 302 (by decide +kernel) rfl) (tm 2760 (by decide +kernel) rfl), by decide +kernel, by decide +kernel, by decide +kernel⟩
theorem vM_cut_427 : OkV RM 427 yM_token cM_token 5 none 3 := ⟨aw_v (tm 2773 (by decide +kernel) rfl) (tm 2775 (by decide +kernel) rfl) (tm 138 (by decide +kernel) rfl) (tm 302 (by decide +kernel) rfl) (tm 2776 (by decide +kernel) rfl), by decide +kernel, by decide +kernel, by decide +kernel⟩
theorem vM_mayWord_461 : OkV RM 461 yM_stops cM_stops 1 (some .boolean) 0 := ⟨aw_v (tm 2787 (by decide +kernel) rfl) (tm 2789 (by decide +kernel) rfl) (tm 141 (by decide +kernel) rfl) (tm 302 (by decide +kernel) rfl) (tm 2790 (by decide +kernel) rfl), by decide +kernel, by decide +kernel, by decide +kernel⟩
theorem vM_mayWord_471 : OkV RM 471 yM_isWord cM_isWord 2 (some .boolean) 1 := ⟨aw_v (tm 2795 (by decide +kernel) rfl) (tm 2797 (by decide +kernel) rfl) (tm 143 (by decide +kernel) rfl) (tm 302 (by decide +kernel) rfl) (tm 2798 (by decide +kernel) rfl), by decide +kernel, by decide +kernel, by decide +kernel⟩
theorem vM_system_461 : OkV RM 461 yM_stops cM_stops 1 (some .boolean) 0 := ⟨aw_v (tm 2787 (by decide +kernel) rfl) (tm 2789 (by decide +kernel) rfl) (tm 141 (by decide +kernel) rfl) (tm 302 (by decide +kernel) rfl) (tm 2790 (by decide +kernel) rfl), by decide +kernel, by decide +kernel, by decide +kernel⟩
theorem vM_system_474 : OkV RM 474 yM_wrong cM_wrong 1 none 0 := ⟨aw_v (tm 2815 (by decide +kernel) rfl) (tm 2817 (by decide +kernel) rfl) (tm 148 (by decide +kernel) rfl) (tm 302 (by decide +kernel) rfl) (tm 2818 (by decide +kernel) rfl), by decide +kernel, by decide +kernel, by decide +kernel⟩
theorem vM_system_522 : OkV RM 522 yM_mayWord cM_mayWord 3 (some .boolean) 1 := ⟨aw_v (tm 2791 (by decide +kernel) rfl) (tm 2793 (by decide +kernel) rfl) (tm 142 (by decide +kernel) rfl) (tm 302 (by decide +kernel) rfl) (tm 2794 (by decide +kernel) rfl), by decide +kernel, by decide +kernel, by decide +kernel⟩
theorem vM_parse_801 : OkV RM 801 yM_cut cM_cut 3 none 0 := ⟨aw_v (tm 2753 (by decide +kernel) rfl) (tm 2755 (by decide +kernel) rfl) (tm 133 (by decide +kernel) rfl) (tm 302 (by decide +kernel) rfl) (tm 2756 (by decide +kernel) rfl), by decide +kernel, by decide +kernel, by decide +kernel⟩
theorem vM_parse_804 : OkV RM 804 yM_system cM_system 5 none 0 := ⟨aw_v (tm 2783 (by decide +kernel) rfl) (tm 2785 (by decide +kernel) rfl) (tm 140 (by decide +kernel) rfl) (tm 302 (by decide +kernel) rfl) (tm 2786 (by decide +kernel) rfl), by decide +kernel, by decide +kernel, by decide +kernel⟩
theorem vM_load_810 : OkV RM 810 yM_toText cM_toText 3 none 1 := ⟨aw_v (tm 2745 (by decide +kernel) rfl) (tm 2747 (by decide +kernel) rfl) (tm 131 (by decide +kernel) rfl) (tm 302 (by decide +kernel) rfl) (tm 2748 (by decide +kernel) rfl), by decide +kernel, by decide +kernel, by decide +kernel⟩
theorem vM_load_813 : OkV RM 813 yM_parse cM_parse 1 (some .boolean) 0 := ⟨aw_v (tm 2749 (by decide +kernel) rfl) (tm 2751 (by decide +kernel) rfl) (tm 132 (by decide +kernel) rfl) (tm 302 (by decide +kernel) rfl) (tm 2752 (by decide +kernel) rfl), by decide +kernel, by decide +kernel, by decide +kernel⟩
theorem vM_chart_810 : OkV RM 810 yM_toText cM_toText 3 none 1 := ⟨aw_v (tm 2745 (by decide +kernel) rfl) (tm 2747 (by decide +kernel) rfl) (tm 131 (by decide +kernel) rfl) (tm 302 (by decide +kernel) rfl) (tm 2748 (by decide +kernel) rfl), by decide +kernel, by decide +kernel, by decide +kernel⟩
end
section
def mStops (M : MS) : Int32 := if M.1 m_fault ≤ 0 then 0 else if M.1 m_judges = 0 then 1 else 0
set_option maxHeartbeats 4000000 in
set_option maxRecDepth 100000 in
/-- stops() -/
theorem t_stops (l : Launch) (g : GG) (o : Nat) (ad : Nat → Nat) (M : MS)  : KI l yM_stops cM_stops 1 (some .boolean) (rD 0 0 0) g (mW g o ad M) (mW g o ad) [.ref o] (fun (r : Int32) (M' : MS) => M' = M ∧ r = mStops M) := by
  refine KI.of (by decide) (Nat.le_of_ble_eq_true rfl) ?_
  intro p e s m below meth c A ls C hr hlk hnm h hl
  have hx := C.1.1
  have hb := C.1.2.1
  have hl : lv_has ls 1 [(0, .ref o)] := hl
  refine lv_aload_n hx hb dM_stops_0 rfl (lv_at hl 0 rfl) ?_
  refine mgi C h m_fault (by decide) rfl (v := M.1 m_fault) rfl rfl dM_stops_1 ?_
  refine lv_if_le (tgt := 18) hx hb dM_stops_4 (by decide) (fun c4 => ?_) (fun c4 => ?_)
  · refine lv_iconst (v := 0) hx hb dM_stops_18 (by decide) ?_
    exact KI.ret C hr hlk M h rfl ⟨rfl, by simp [mStops, c4]⟩ (by decide) (by decide) dM_stops_19
  · refine lv_aload_n hx hb dM_stops_7 rfl (lv_at hl 0 rfl) ?_
    refine mgi C h m_judges (by decide) rfl (v := M.1 m_judges) rfl rfl dM_stops_8 ?_
    refine lv_if_ne (tgt := 18) hx hb dM_stops_11 (by decide) (fun c11 => ?_) (fun c11 => ?_)
    · refine lv_iconst (v := 0) hx hb dM_stops_18 (by decide) ?_
      exact KI.ret C hr hlk M h rfl ⟨rfl, by simp [mStops, c4, c11]⟩ (by decide) (by decide) dM_stops_19
    · refine lv_iconst (v := 1) hx hb dM_stops_14 (by decide) ?_
      refine lv_goto (tgt := 19) hx hb dM_stops_15 (by decide) ?_
      exact KI.ret C hr hlk M h rfl ⟨rfl, by simp [mStops, c4, c11]⟩ (by decide) (by decide) dM_stops_19

set_option maxHeartbeats 4000000 in
set_option maxRecDepth 100000 in
/-- run without a RUN (a system) -/
theorem t_run (l : Launch) (g : GG) (o : Nat) (ad : Nat → Nat) (M : MS) (a1 : Int32) (hruns : M.1 m_runs = 0) : KI l yM_run cM_run 5 (some .int) (rD 0 0 0) g (mW g o ad M) (mW g o ad) [.ref o, .int (a1)] (fun (r : Int32) (M' : MS) => M' = M ∧ r = -1) := by
  refine KI.of (by decide) (Nat.le_of_ble_eq_true rfl) ?_
  intro p e s m below meth c A ls C hr hlk hnm h hl
  have hx := C.1.1
  have hb := C.1.2.1
  have hl : lv_has ls 5 [(0, .ref o), (1, .int (a1))] := hl
  refine lv_aload_n hx hb dM_run_0 rfl (lv_at hl 0 rfl) ?_
  refine mgi C h m_runs (by decide) rfl (v := 0) hruns rfl dM_run_1 ?_
  refine lv_if_eq (tgt := 19) hx hb dM_run_4 (by decide) (fun c4 => ?_) (fun c4 => absurd c4 (by decide))
  refine lv_iconst (v := -1) hx hb dM_run_19 (by decide) ?_
  exact KI.ret C hr hlk M h rfl ⟨rfl, rfl⟩ (by decide) (by decide) dM_run_20

set_option maxHeartbeats 4000000 in
set_option maxRecDepth 100000 in
/-- go without a RUN (a system) -/
theorem t_go (l : Launch) (g : GG) (o : Nat) (ad : Nat → Nat) (M : MS) (a1 : Int32) (hruns : M.1 m_runs = 0) : KI l yM_go cM_go 4 (some .int) (rD 0 0 0) g (mW g o ad M) (mW g o ad) [.ref o, .int (a1)] (fun (r : Int32) (M' : MS) => M' = M ∧ r = -1) := by
  refine KI.of (by decide) (Nat.le_of_ble_eq_true rfl) ?_
  intro p e s m below meth c A ls C hr hlk hnm h hl
  have hx := C.1.1
  have hb := C.1.2.1
  have hl : lv_has ls 4 [(0, .ref o), (1, .int (a1))] := hl
  refine lv_aload_n hx hb dM_go_0 rfl (lv_at hl 0 rfl) ?_
  refine mgi C h m_runs (by decide) rfl (v := 0) hruns rfl dM_go_1 ?_
  refine lv_if_ne (tgt := 9) hx hb dM_go_4 (by decide) (fun c4 => absurd c4 (by decide)) (fun c4 => ?_)
  refine lv_iconst (v := -1) hx hb dM_go_7 (by decide) ?_
  exact KI.ret C hr hlk M h rfl ⟨rfl, rfl⟩ (by decide) (by decide) dM_go_8

set_option maxHeartbeats 4000000 in
set_option maxRecDepth 100000 in
/-- none without a RUN (a system) -/
theorem t_none (l : Launch) (g : GG) (o : Nat) (ad : Nat → Nat) (M : MS) (a1 : Int32) (a2 : Int32) (hruns : M.1 m_runs = 0) : KI l yM_none cM_none 5 (some .int) (rD 0 0 0) g (mW g o ad M) (mW g o ad) [.ref o, .int (a1), .int (a2)] (fun (r : Int32) (M' : MS) => M' = M ∧ r = -1) := by
  refine KI.of (by decide) (Nat.le_of_ble_eq_true rfl) ?_
  intro p e s m below meth c A ls C hr hlk hnm h hl
  have hx := C.1.1
  have hb := C.1.2.1
  have hl : lv_has ls 5 [(0, .ref o), (1, .int (a1)), (2, .int (a2))] := hl
  refine lv_aload_n hx hb dM_none_0 rfl (lv_at hl 0 rfl) ?_
  refine mgi C h m_runs (by decide) rfl (v := 0) hruns rfl dM_none_1 ?_
  refine lv_if_ne (tgt := 9) hx hb dM_none_4 (by decide) (fun c4 => absurd c4 (by decide)) (fun c4 => ?_)
  refine lv_iconst (v := -1) hx hb dM_none_7 (by decide) ?_
  exact KI.ret C hr hlk M h rfl ⟨rfl, rfl⟩ (by decide) (by decide) dM_none_8

set_option maxHeartbeats 4000000 in
set_option maxRecDepth 100000 in
/-- wait without a RUN (a system) -/
theorem t_wait (l : Launch) (g : GG) (o : Nat) (ad : Nat → Nat) (M : MS) (a1 : Int32) (hruns : M.1 m_runs = 0) : KI l yM_wait cM_wait 2 (some .int) (rD 0 0 0) g (mW g o ad M) (mW g o ad) [.ref o, .int (a1)] (fun (r : Int32) (M' : MS) => M' = M ∧ r = -1) := by
  refine KI.of (by decide) (Nat.le_of_ble_eq_true rfl) ?_
  intro p e s m below meth c A ls C hr hlk hnm h hl
  have hx := C.1.1
  have hb := C.1.2.1
  have hl : lv_has ls 2 [(0, .ref o), (1, .int (a1))] := hl
  refine lv_aload_n hx hb dM_wait_0 rfl (lv_at hl 0 rfl) ?_
  refine mgi C h m_runs (by decide) rfl (v := 0) hruns rfl dM_wait_1 ?_
  refine lv_if_eq (tgt := 18) hx hb dM_wait_4 (by decide) (fun c4 => ?_) (fun c4 => absurd c4 (by decide))
  refine lv_iconst (v := -1) hx hb dM_wait_18 (by decide) ?_
  exact KI.ret C hr hlk M h rfl ⟨rfl, rfl⟩ (by decide) (by decide) dM_wait_19

set_option maxHeartbeats 4000000 in
set_option maxRecDepth 100000 in
/-- alive without a RUN (a system) -/
theorem t_alive (l : Launch) (g : GG) (o : Nat) (ad : Nat → Nat) (M : MS) (a1 : Int32) (hruns : M.1 m_runs = 0) : KI l yM_alive cM_alive 2 (some .int) (rD 0 0 0) g (mW g o ad M) (mW g o ad) [.ref o, .int (a1)] (fun (r : Int32) (M' : MS) => M' = M ∧ r = -1) := by
  refine KI.of (by decide) (Nat.le_of_ble_eq_true rfl) ?_
  intro p e s m below meth c A ls C hr hlk hnm h hl
  have hx := C.1.1
  have hb := C.1.2.1
  have hl : lv_has ls 2 [(0, .ref o), (1, .int (a1))] := hl
  refine lv_aload_n hx hb dM_alive_0 rfl (lv_at hl 0 rfl) ?_
  refine mgi C h m_runs (by decide) rfl (v := 0) hruns rfl dM_alive_1 ?_
  refine lv_if_eq (tgt := 33) hx hb dM_alive_4 (by decide) (fun c4 => ?_) (fun c4 => absurd c4 (by decide))
  refine lv_iconst (v := -1) hx hb dM_alive_33 (by decide) ?_
  exact KI.ret C hr hlk M h rfl ⟨rfl, rfl⟩ (by decide) (by decide) dM_alive_34

set_option maxHeartbeats 4000000 in
set_option maxRecDepth 100000 in
/-- way without a RUN (a system) -/
theorem t_way (l : Launch) (g : GG) (o : Nat) (ad : Nat → Nat) (M : MS) (a1 : Int32) (a2 : Int32) (a3 : Int32) (hruns : M.1 m_runs = 0) : KI l yM_way cM_way 4 (some .int) (rD 0 0 0) g (mW g o ad M) (mW g o ad) [.ref o, .int (a1), .int (a2), .int (a3)] (fun (r : Int32) (M' : MS) => M' = M ∧ r = -1) := by
  refine KI.of (by decide) (Nat.le_of_ble_eq_true rfl) ?_
  intro p e s m below meth c A ls C hr hlk hnm h hl
  have hx := C.1.1
  have hb := C.1.2.1
  have hl : lv_has ls 4 [(0, .ref o), (1, .int (a1)), (2, .int (a2)), (3, .int (a3))] := hl
  refine lv_aload_n hx hb dM_way_0 rfl (lv_at hl 0 rfl) ?_
  refine mgi C h m_runs (by decide) rfl (v := 0) hruns rfl dM_way_1 ?_
  refine lv_if_eq (tgt := 46) hx hb dM_way_4 (by decide) (fun c4 => ?_) (fun c4 => absurd c4 (by decide))
  refine lv_iconst (v := -1) hx hb dM_way_46 (by decide) ?_
  exact KI.ret C hr hlk M h rfl ⟨rfl, rfl⟩ (by decide) (by decide) dM_way_47

set_option maxHeartbeats 4000000 in
set_option maxRecDepth 100000 in
/-- out without a RUN (a system) -/
theorem t_out (l : Launch) (g : GG) (o : Nat) (ad : Nat → Nat) (M : MS) (a1 : Int32) (a2 : Int32) (hruns : M.1 m_runs = 0) : KI l yM_out cM_out 3 (some .int) (rD 0 0 0) g (mW g o ad M) (mW g o ad) [.ref o, .int (a1), .int (a2)] (fun (r : Int32) (M' : MS) => M' = M ∧ r = -1) := by
  refine KI.of (by decide) (Nat.le_of_ble_eq_true rfl) ?_
  intro p e s m below meth c A ls C hr hlk hnm h hl
  have hx := C.1.1
  have hb := C.1.2.1
  have hl : lv_has ls 3 [(0, .ref o), (1, .int (a1)), (2, .int (a2))] := hl
  refine lv_aload_n hx hb dM_out_0 rfl (lv_at hl 0 rfl) ?_
  refine mgi C h m_runs (by decide) rfl (v := 0) hruns rfl dM_out_1 ?_
  refine lv_if_eq (tgt := 28) hx hb dM_out_4 (by decide) (fun c4 => ?_) (fun c4 => absurd c4 (by decide))
  refine lv_iconst (v := -1) hx hb dM_out_28 (by decide) ?_
  exact KI.ret C hr hlk M h rfl ⟨rfl, rfl⟩ (by decide) (by decide) dM_out_29

set_option maxHeartbeats 4000000 in
set_option maxRecDepth 100000 in
/-- event without a RUN (a system) -/
theorem t_event (l : Launch) (g : GG) (o : Nat) (ad : Nat → Nat) (M : MS) (a1 : Int32) (a2 : Int32) (hruns : M.1 m_runs = 0) : KI l yM_event cM_event 3 (some .int) (rD 0 0 0) g (mW g o ad M) (mW g o ad) [.ref o, .int (a1), .int (a2)] (fun (r : Int32) (M' : MS) => M' = M ∧ r = -1) := by
  refine KI.of (by decide) (Nat.le_of_ble_eq_true rfl) ?_
  intro p e s m below meth c A ls C hr hlk hnm h hl
  have hx := C.1.1
  have hb := C.1.2.1
  have hl : lv_has ls 3 [(0, .ref o), (1, .int (a1)), (2, .int (a2))] := hl
  refine lv_aload_n hx hb dM_event_0 rfl (lv_at hl 0 rfl) ?_
  refine mgi C h m_runs (by decide) rfl (v := 0) hruns rfl dM_event_1 ?_
  refine lv_if_eq (tgt := 28) hx hb dM_event_4 (by decide) (fun c4 => ?_) (fun c4 => absurd c4 (by decide))
  refine lv_iconst (v := -1) hx hb dM_event_28 (by decide) ?_
  exact KI.ret C hr hlk M h rfl ⟨rfl, rfl⟩ (by decide) (by decide) dM_event_29

set_option maxHeartbeats 4000000 in
set_option maxRecDepth 100000 in
/-- search without a RUN (a system) -/
theorem t_search (l : Launch) (g : GG) (o : Nat) (ad : Nat → Nat) (M : MS) (a1 : Int32) (hruns : M.1 m_runs = 0) : KI l yM_search cM_search 3 (some .int) (rD 0 0 0) g (mW g o ad M) (mW g o ad) [.ref o, .int (a1)] (fun (r : Int32) (M' : MS) => M' = M ∧ r = -1) := by
  refine KI.of (by decide) (Nat.le_of_ble_eq_true rfl) ?_
  intro p e s m below meth c A ls C hr hlk hnm h hl
  have hx := C.1.1
  have hb := C.1.2.1
  have hl : lv_has ls 3 [(0, .ref o), (1, .int (a1))] := hl
  refine lv_aload_n hx hb dM_search_0 rfl (lv_at hl 0 rfl) ?_
  refine mgi C h m_runs (by decide) rfl (v := 0) hruns rfl dM_search_1 ?_
  refine lv_if_eq (tgt := 19) hx hb dM_search_4 (by decide) (fun c4 => ?_) (fun c4 => absurd c4 (by decide))
  refine lv_iconst (v := -1) hx hb dM_search_19 (by decide) ?_
  exact KI.ret C hr hlk M h rfl ⟨rfl, rfl⟩ (by decide) (by decide) dM_search_20

set_option maxHeartbeats 4000000 in
set_option maxRecDepth 100000 in
/-- state without a RUN (a system) -/
theorem t_state (l : Launch) (g : GG) (o : Nat) (ad : Nat → Nat) (M : MS) (a1 : Int32) (a2 : Int32) (hruns : M.1 m_runs = 0) : KI l yM_state cM_state 3 (some .int) (rD 0 0 0) g (mW g o ad M) (mW g o ad) [.ref o, .int (a1), .int (a2)] (fun (r : Int32) (M' : MS) => M' = M ∧ r = -1) := by
  refine KI.of (by decide) (Nat.le_of_ble_eq_true rfl) ?_
  intro p e s m below meth c A ls C hr hlk hnm h hl
  have hx := C.1.1
  have hb := C.1.2.1
  have hl : lv_has ls 3 [(0, .ref o), (1, .int (a1)), (2, .int (a2))] := hl
  refine lv_aload_n hx hb dM_state_0 rfl (lv_at hl 0 rfl) ?_
  refine mgi C h m_runs (by decide) rfl (v := 0) hruns rfl dM_state_1 ?_
  refine lv_if_eq (tgt := 19) hx hb dM_state_4 (by decide) (fun c4 => ?_) (fun c4 => absurd c4 (by decide))
  refine lv_iconst (v := -1) hx hb dM_state_19 (by decide) ?_
  exact KI.ret C hr hlk M h rfl ⟨rfl, rfl⟩ (by decide) (by decide) dM_state_20

set_option maxHeartbeats 4000000 in
set_option maxRecDepth 100000 in
/-- first without a RUN (a system) -/
theorem t_first (l : Launch) (g : GG) (o : Nat) (ad : Nat → Nat) (M : MS) (a1 : Int32) (a2 : Int32) (a3 : Int32) (hruns : M.1 m_runs = 0) : KI l yM_first cM_first 6 (some .int) (rD 0 0 0) g (mW g o ad M) (mW g o ad) [.ref o, .int (a1), .int (a2), .int (a3)] (fun (r : Int32) (M' : MS) => M' = M ∧ r = -1) := by
  refine KI.of (by decide) (Nat.le_of_ble_eq_true rfl) ?_
  intro p e s m below meth c A ls C hr hlk hnm h hl
  have hx := C.1.1
  have hb := C.1.2.1
  have hl : lv_has ls 6 [(0, .ref o), (1, .int (a1)), (2, .int (a2)), (3, .int (a3))] := hl
  refine lv_aload_n hx hb dM_first_0 rfl (lv_at hl 0 rfl) ?_
  refine mgi C h m_runs (by decide) rfl (v := 0) hruns rfl dM_first_1 ?_
  refine lv_if_eq (tgt := 16) hx hb dM_first_4 (by decide) (fun c4 => ?_) (fun c4 => absurd c4 (by decide))
  refine lv_iconst (v := -1) hx hb dM_first_16 (by decide) ?_
  exact KI.ret C hr hlk M h rfl ⟨rfl, rfl⟩ (by decide) (by decide) dM_first_17

set_option maxHeartbeats 4000000 in
set_option maxRecDepth 100000 in
/-- visit without a RUN (a system) -/
theorem t_visit (l : Launch) (g : GG) (o : Nat) (ad : Nat → Nat) (M : MS) (a1 : Int32) (hruns : M.1 m_runs = 0) : KI l yM_visit cM_visit 4 (some .int) (rD 0 0 0) g (mW g o ad M) (mW g o ad) [.ref o, .int (a1)] (fun (r : Int32) (M' : MS) => M' = M ∧ r = -1) := by
  refine KI.of (by decide) (Nat.le_of_ble_eq_true rfl) ?_
  intro p e s m below meth c A ls C hr hlk hnm h hl
  have hx := C.1.1
  have hb := C.1.2.1
  have hl : lv_has ls 4 [(0, .ref o), (1, .int (a1))] := hl
  refine lv_aload_n hx hb dM_visit_0 rfl (lv_at hl 0 rfl) ?_
  refine mgi C h m_runs (by decide) rfl (v := 0) hruns rfl dM_visit_1 ?_
  refine lv_if_ne (tgt := 9) hx hb dM_visit_4 (by decide) (fun c4 => absurd c4 (by decide)) (fun c4 => ?_)
  refine lv_iconst (v := -1) hx hb dM_visit_7 (by decide) ?_
  exact KI.ret C hr hlk M h rfl ⟨rfl, rfl⟩ (by decide) (by decide) dM_visit_8

set_option maxHeartbeats 4000000 in
set_option maxRecDepth 100000 in
/-- slotAsked without a RUN (a system) -/
theorem t_slotAsked (l : Launch) (g : GG) (o : Nat) (ad : Nat → Nat) (M : MS) (a1 : Int32) (hruns : M.1 m_runs = 0) : KI l yM_slotAsked cM_slotAsked 2 (some .int) (rD 0 0 0) g (mW g o ad M) (mW g o ad) [.ref o, .int (a1)] (fun (r : Int32) (M' : MS) => M' = M ∧ r = -1) := by
  refine KI.of (by decide) (Nat.le_of_ble_eq_true rfl) ?_
  intro p e s m below meth c A ls C hr hlk hnm h hl
  have hx := C.1.1
  have hb := C.1.2.1
  have hl : lv_has ls 2 [(0, .ref o), (1, .int (a1))] := hl
  refine lv_aload_n hx hb dM_slotAsked_0 rfl (lv_at hl 0 rfl) ?_
  refine mgi C h m_runs (by decide) rfl (v := 0) hruns rfl dM_slotAsked_1 ?_
  refine lv_if_eq (tgt := 19) hx hb dM_slotAsked_4 (by decide) (fun c4 => ?_) (fun c4 => absurd c4 (by decide))
  refine lv_iconst (v := -1) hx hb dM_slotAsked_19 (by decide) ?_
  exact KI.ret C hr hlk M h rfl ⟨rfl, rfl⟩ (by decide) (by decide) dM_slotAsked_20

set_option maxHeartbeats 4000000 in
set_option maxRecDepth 100000 in
/-- put_ without a RUN (a system) -/
theorem t_put_ (l : Launch) (g : GG) (o : Nat) (ad : Nat → Nat) (M : MS) (a1 : Int32) (a2 : Int32) (a3 : Int32) (a4 : Int32) (a5 : Int32) (hruns : M.1 m_runs = 0) : KI l yM_put_ cM_put_ 10 (some .int) (rD 0 0 0) g (mW g o ad M) (mW g o ad) [.ref o, .int (a1), .int (a2), .int (a3), .int (a4), .int (a5)] (fun (r : Int32) (M' : MS) => M' = M ∧ r = -1) := by
  refine KI.of (by decide) (Nat.le_of_ble_eq_true rfl) ?_
  intro p e s m below meth c A ls C hr hlk hnm h hl
  have hx := C.1.1
  have hb := C.1.2.1
  have hl : lv_has ls 10 [(0, .ref o), (1, .int (a1)), (2, .int (a2)), (3, .int (a3)), (4, .int (a4)), (5, .int (a5))] := hl
  refine lv_aload_n hx hb dM_put__0 rfl (lv_at hl 0 rfl) ?_
  refine mgi C h m_runs (by decide) rfl (v := 0) hruns rfl dM_put__1 ?_
  refine lv_if_ne (tgt := 9) hx hb dM_put__4 (by decide) (fun c4 => absurd c4 (by decide)) (fun c4 => ?_)
  refine lv_iconst (v := -1) hx hb dM_put__7 (by decide) ?_
  exact KI.ret C hr hlk M h rfl ⟨rfl, rfl⟩ (by decide) (by decide) dM_put__8

set_option maxHeartbeats 4000000 in
set_option maxRecDepth 100000 in
/-- begin without a RUN (a system) -/
theorem t_begin (l : Launch) (g : GG) (o : Nat) (ad : Nat → Nat) (M : MS) (a1 : Int32) (hthere : M.1 m_there = 0) : KI l yM_begin cM_begin 4 (some .int) (rD 0 0 0) g (mW g o ad M) (mW g o ad) [.ref o, .int (a1)] (fun (r : Int32) (M' : MS) => M' = M ∧ r = -1) := by
  refine KI.of (by decide) (Nat.le_of_ble_eq_true rfl) ?_
  intro p e s m below meth c A ls C hr hlk hnm h hl
  have hx := C.1.1
  have hb := C.1.2.1
  have hl : lv_has ls 4 [(0, .ref o), (1, .int (a1))] := hl
  refine lv_aload_n hx hb dM_begin_0 rfl (lv_at hl 0 rfl) ?_
  refine mgi C h m_there (by decide) rfl (v := 0) hthere rfl dM_begin_1 ?_
  refine lv_if_ne (tgt := 9) hx hb dM_begin_4 (by decide) (fun c4 => absurd c4 (by decide)) (fun c4 => ?_)
  refine lv_iconst (v := -1) hx hb dM_begin_7 (by decide) ?_
  exact KI.ret C hr hlk M h rfl ⟨rfl, rfl⟩ (by decide) (by decide) dM_begin_8

set_option maxHeartbeats 4000000 in
set_option maxRecDepth 100000 in
/-- type without a RUN (a system) -/
theorem t_type (l : Launch) (g : GG) (o : Nat) (ad : Nat → Nat) (M : MS) (a1 : Int32) (a2 : Int32) (hthere : M.1 m_there = 0) : KI l yM_type cM_type 3 (some .int) (rD 0 0 0) g (mW g o ad M) (mW g o ad) [.ref o, .int (a1), .int (a2)] (fun (r : Int32) (M' : MS) => M' = M ∧ r = -1) := by
  refine KI.of (by decide) (Nat.le_of_ble_eq_true rfl) ?_
  intro p e s m below meth c A ls C hr hlk hnm h hl
  have hx := C.1.1
  have hb := C.1.2.1
  have hl : lv_has ls 3 [(0, .ref o), (1, .int (a1)), (2, .int (a2))] := hl
  refine lv_aload_n hx hb dM_type_0 rfl (lv_at hl 0 rfl) ?_
  refine mgi C h m_there (by decide) rfl (v := 0) hthere rfl dM_type_1 ?_
  refine lv_if_eq (tgt := 19) hx hb dM_type_4 (by decide) (fun c4 => ?_) (fun c4 => absurd c4 (by decide))
  refine lv_iconst (v := -1) hx hb dM_type_19 (by decide) ?_
  exact KI.ret C hr hlk M h rfl ⟨rfl, rfl⟩ (by decide) (by decide) dM_type_20

set_option maxHeartbeats 4000000 in
set_option maxRecDepth 100000 in
/-- place() -/
theorem t_place (l : Launch) (g : GG) (o : Nat) (ad : Nat → Nat) (M : MS)  : KI l yM_place cM_place 1 (some .int) (rD 0 0 0) g (mW g o ad M) (mW g o ad) [.ref o] (fun (r : Int32) (M' : MS) => M' = M ∧ r = M.1 m_place) := by
  refine KI.of (by decide) (Nat.le_of_ble_eq_true rfl) ?_
  intro p e s m below meth c A ls C hr hlk hnm h hl
  have hx := C.1.1
  have hb := C.1.2.1
  have hl : lv_has ls 1 [(0, .ref o)] := hl
  refine lv_aload_n hx hb dM_place_0 rfl (lv_at hl 0 rfl) ?_
  refine mgi C h m_place (by decide) rfl (v := M.1 m_place) rfl rfl dM_place_1 ?_
  exact KI.ret C hr hlk M h rfl ⟨rfl, rfl⟩ (by decide) (by decide) dM_place_4

set_option maxHeartbeats 4000000 in
set_option maxRecDepth 100000 in
/-- instance without a RUN -/
theorem t_instance (l : Launch) (g : GG) (o : Nat) (ad : Nat → Nat) (M : MS) (a1 : Int32) (a2 : Int32) (hruns : M.1 m_runs = 0) : KI l yM_instance cM_instance 5 (some .int) (rD 1 0 0) g (mW g o ad M) (mW g o ad) [.ref o, .int (a1), .int (a2)] (fun (r : Int32) (M' : MS) => M' = M ∧ r = -1) := by
  refine KI.of (by decide) (Nat.le_of_ble_eq_true rfl) ?_
  intro p e s m below meth c A ls C hr hlk hnm h hl
  have hx := C.1.1
  have hb := C.1.2.1
  have hl : lv_has ls 5 [(0, .ref o), (1, .int (a1)), (2, .int (a2))] := hl
  refine lv_aload_n hx hb dM_instance_0 rfl (lv_at hl 0 rfl) ?_
  refine lv_iload_n hx hb dM_instance_1 rfl (lv_at hl 1 rfl) ?_
  refine KI.callV (As := [.int (a1)]) (q0 := 0) (ci := 0) C h (t_slotAsked l g o ad M a1 hruns) vM_instance_1042 ⟨by decide, by decide⟩ rfl rfl hl.1 rfl (by decide) dM_instance_2 ⟨by decide, by decide⟩ (fun r_1 u_2 H locs hp h => ?_)
  obtain ⟨eu, er⟩ := hp
  rw [eu] at h
  subst er
  refine lv_istore_n (lv' := [(3, .int (-1)), (0, .ref o), (1, .int (a1)), (2, .int (a2))]) hx hb dM_instance_5 rfl hl (by decide) rfl (fun ls hl => ?_)
  refine lv_iload_n hx hb dM_instance_6 rfl (lv_at hl 0 rfl) ?_
  refine lv_if_ge (tgt := 12) hx hb dM_instance_7 (by decide) (fun c7 => absurd c7 (by decide)) (fun c7 => ?_)
  refine lv_iconst (v := -1) hx hb dM_instance_10 (by decide) ?_
  exact KI.ret C hr hlk M h rfl ⟨rfl, rfl⟩ (by decide) (by decide) dM_instance_11

set_option maxHeartbeats 4000000 in
set_option maxRecDepth 100000 in
/-- cell without a RUN -/
theorem t_cell (l : Launch) (g : GG) (o : Nat) (ad : Nat → Nat) (M : MS) (a1 : Int32) (a2 : Int32) (hruns : M.1 m_runs = 0) : KI l yM_cell cM_cell 4 (some .int) (rD 1 0 0) g (mW g o ad M) (mW g o ad) [.ref o, .int (a1), .int (a2)] (fun (r : Int32) (M' : MS) => M' = M ∧ r = 0) := by
  refine KI.of (by decide) (Nat.le_of_ble_eq_true rfl) ?_
  intro p e s m below meth c A ls C hr hlk hnm h hl
  have hx := C.1.1
  have hb := C.1.2.1
  have hl : lv_has ls 4 [(0, .ref o), (1, .int (a1)), (2, .int (a2))] := hl
  refine lv_aload_n hx hb dM_cell_0 rfl (lv_at hl 0 rfl) ?_
  refine lv_iload_n hx hb dM_cell_1 rfl (lv_at hl 1 rfl) ?_
  refine KI.callV (As := [.int (a1)]) (q0 := 0) (ci := 0) C h (t_slotAsked l g o ad M a1 hruns) vM_cell_1042 ⟨by decide, by decide⟩ rfl rfl hl.1 rfl (by decide) dM_cell_2 ⟨by decide, by decide⟩ (fun r_1 u_2 H locs hp h => ?_)
  obtain ⟨eu, er⟩ := hp
  rw [eu] at h
  subst er
  refine lv_istore_n (lv' := [(3, .int (-1)), (0, .ref o), (1, .int (a1)), (2, .int (a2))]) hx hb dM_cell_5 rfl hl (by decide) rfl (fun ls hl => ?_)
  refine lv_iload_n hx hb dM_cell_6 rfl (lv_at hl 0 rfl) ?_
  refine lv_if_lt (tgt := 34) hx hb dM_cell_7 (by decide) (fun c7 => ?_) (fun c7 => absurd c7 (by decide))
  refine lv_iconst (v := 0) hx hb dM_cell_34 (by decide) ?_
  refine lv_goto (tgt := 52) hx hb dM_cell_35 (by decide) ?_
  exact KI.ret C hr hlk M h rfl ⟨rfl, rfl⟩ (by decide) (by decide) dM_cell_52

set_option maxHeartbeats 4000000 in
set_option maxRecDepth 100000 in
/-- timer without a RUN -/
theorem t_timer (l : Launch) (g : GG) (o : Nat) (ad : Nat → Nat) (M : MS) (a1 : Int32) (a2 : Int32) (hruns : M.1 m_runs = 0) : KI l yM_timer cM_timer 4 (some .int) (rD 1 0 0) g (mW g o ad M) (mW g o ad) [.ref o, .int (a1), .int (a2)] (fun (r : Int32) (M' : MS) => M' = M ∧ r = -1) := by
  refine KI.of (by decide) (Nat.le_of_ble_eq_true rfl) ?_
  intro p e s m below meth c A ls C hr hlk hnm h hl
  have hx := C.1.1
  have hb := C.1.2.1
  have hl : lv_has ls 4 [(0, .ref o), (1, .int (a1)), (2, .int (a2))] := hl
  refine lv_aload_n hx hb dM_timer_0 rfl (lv_at hl 0 rfl) ?_
  refine lv_iload_n hx hb dM_timer_1 rfl (lv_at hl 1 rfl) ?_
  refine KI.callV (As := [.int (a1)]) (q0 := 0) (ci := 0) C h (t_slotAsked l g o ad M a1 hruns) vM_timer_1042 ⟨by decide, by decide⟩ rfl rfl hl.1 rfl (by decide) dM_timer_2 ⟨by decide, by decide⟩ (fun r_1 u_2 H locs hp h => ?_)
  obtain ⟨eu, er⟩ := hp
  rw [eu] at h
  subst er
  refine lv_istore_n (lv' := [(3, .int (-1)), (0, .ref o), (1, .int (a1)), (2, .int (a2))]) hx hb dM_timer_5 rfl hl (by decide) rfl (fun ls hl => ?_)
  refine lv_iload_n hx hb dM_timer_6 rfl (lv_at hl 0 rfl) ?_
  refine lv_if_lt (tgt := 34) hx hb dM_timer_7 (by decide) (fun c7 => ?_) (fun c7 => absurd c7 (by decide))
  refine lv_iconst (v := -1) hx hb dM_timer_34 (by decide) ?_
  refine lv_goto (tgt := 52) hx hb dM_timer_35 (by decide) ?_
  exact KI.ret C hr hlk M h rfl ⟨rfl, rfl⟩ (by decide) (by decide) dM_timer_52

set_option maxHeartbeats 4000000 in
set_option maxRecDepth 100000 in
/-- queued without a RUN -/
theorem t_queued (l : Launch) (g : GG) (o : Nat) (ad : Nat → Nat) (M : MS) (a1 : Int32) (a2 : Int32) (a3 : Int32) (hruns : M.1 m_runs = 0) : KI l yM_queued cM_queued 5 (some .int) (rD 1 0 0) g (mW g o ad M) (mW g o ad) [.ref o, .int (a1), .int (a2), .int (a3)] (fun (r : Int32) (M' : MS) => M' = M ∧ r = -1) := by
  refine KI.of (by decide) (Nat.le_of_ble_eq_true rfl) ?_
  intro p e s m below meth c A ls C hr hlk hnm h hl
  have hx := C.1.1
  have hb := C.1.2.1
  have hl : lv_has ls 5 [(0, .ref o), (1, .int (a1)), (2, .int (a2)), (3, .int (a3))] := hl
  refine lv_aload_n hx hb dM_queued_0 rfl (lv_at hl 0 rfl) ?_
  refine lv_iload_n hx hb dM_queued_1 rfl (lv_at hl 1 rfl) ?_
  refine KI.callV (As := [.int (a1)]) (q0 := 0) (ci := 0) C h (t_slotAsked l g o ad M a1 hruns) vM_queued_1042 ⟨by decide, by decide⟩ rfl rfl hl.1 rfl (by decide) dM_queued_2 ⟨by decide, by decide⟩ (fun r_1 u_2 H locs hp h => ?_)
  obtain ⟨eu, er⟩ := hp
  rw [eu] at h
  subst er
  refine lv_istore (lv' := [(4, .int (-1)), (0, .ref o), (1, .int (a1)), (2, .int (a2)), (3, .int (a3))]) hx hb dM_queued_5 hl (by decide) rfl (fun ls hl => ?_)
  refine lv_iload hx hb dM_queued_7 (lv_at hl 0 rfl) ?_
  refine lv_if_lt (tgt := 42) hx hb dM_queued_9 (by decide) (fun c9 => ?_) (fun c9 => absurd c9 (by decide))
  refine lv_iconst (v := -1) hx hb dM_queued_42 (by decide) ?_
  exact KI.ret C hr hlk M h rfl ⟨rfl, rfl⟩ (by decide) (by decide) dM_queued_43

set_option maxHeartbeats 4000000 in
set_option maxRecDepth 100000 in
/-- warning() where there is none -/
theorem t_warning (l : Launch) (g : GG) (o : Nat) (ad : Nat → Nat) (M : MS) (a1 : Int32) (a2 : Int32) (hw : M.1 m_warnings = 0) : KI l yM_warning cM_warning 3 (some .int) (rD 0 0 0) g (mW g o ad M) (mW g o ad) [.ref o, .int (a1), .int (a2)] (fun (r : Int32) (M' : MS) => M' = M ∧ r = -1) := by
  refine KI.of (by decide) (Nat.le_of_ble_eq_true rfl) ?_
  intro p e s m below meth c A ls C hr hlk hnm h hl
  have hx := C.1.1
  have hb := C.1.2.1
  have hl : lv_has ls 3 [(0, .ref o), (1, .int (a1)), (2, .int (a2))] := hl
  refine lv_iload_n hx hb dM_warning_0 rfl (lv_at hl 1 rfl) ?_
  refine lv_if_lt (tgt := 21) hx hb dM_warning_1 (by decide) (fun c1 => ?_) (fun c1 => ?_)
  · refine lv_iconst (v := -1) hx hb dM_warning_21 (by decide) ?_
    exact KI.ret C hr hlk M h rfl ⟨rfl, rfl⟩ (by decide) (by decide) dM_warning_22
  · refine lv_iload_n hx hb dM_warning_4 rfl (lv_at hl 1 rfl) ?_
    refine lv_aload_n hx hb dM_warning_5 rfl (lv_at hl 0 rfl) ?_
    refine mgi C h m_warnings (by decide) rfl (v := 0) hw rfl dM_warning_6 ?_
    refine lv_icmp_ge (tgt := 21) hx hb dM_warning_9 (by decide) (fun c9 => ?_) (fun c9 => absurd (Int32.not_lt.mp c1) c9)
    refine lv_iconst (v := -1) hx hb dM_warning_21 (by decide) ?_
    exact KI.ret C hr hlk M h rfl ⟨rfl, rfl⟩ (by decide) (by decide) dM_warning_22

def nCount (a : Int32) : Int32 := if a < 0 then -1 else if a ≤ 18 then 0 else -1
set_option maxHeartbeats 4000000 in
set_option maxRecDepth 100000 in
/-- count() on a fresh object -/
theorem t_count (l : Launch) (g : GG) (o : Nat) (ad : Nat → Nat) (M : MS) (a1 : Int32) (hruns : M.1 m_runs = 0) (hthere : M.1 m_there = 0) (htap : M.1 m_taped = 0) : KI l yM_count cM_count 2 (some .int) (rD 0 0 0) g (mW g o ad M) (mW g o ad) [.ref o, .int (a1)] (fun (r : Int32) (M' : MS) => M' = M ∧ r = nCount a1) := by
  refine KI.of (by decide) (Nat.le_of_ble_eq_true rfl) ?_
  intro p e s m below meth c A ls C hr hlk hnm h hl
  have hx := C.1.1
  have hb := C.1.2.1
  have hl : lv_has ls 2 [(0, .ref o), (1, .int (a1))] := hl
  refine lv_iload_n hx hb dM_count_0 rfl (lv_at hl 1 rfl) ?_
  by_cases s1_0 : a1 = 0
  · subst s1_0
    refine lv_tableIn (off := 75) (tgt := 76) hx hb dM_count_1 (by decide) (by decide) (by decide) (by decide) ?_
    refine lv_aload_n hx hb dM_count_76 rfl (lv_at hl 0 rfl) ?_
    refine mgi C h m_there (by decide) rfl (v := 0) hthere rfl dM_count_77 ?_
    refine lv_if_eq (tgt := 90) hx hb dM_count_80 (by decide) (fun c80 => ?_) (fun c80 => absurd c80 (by decide))
    refine lv_iconst (v := 0) hx hb dM_count_90 (by decide) ?_
    exact KI.ret C hr hlk M h rfl ⟨rfl, by decide⟩ (by decide) (by decide) dM_count_91
  by_cases s1_1 : a1 = 1
  · subst s1_1
    refine lv_tableIn (off := 91) (tgt := 92) hx hb dM_count_1 (by decide) (by decide) (by decide) (by decide) ?_
    refine lv_aload_n hx hb dM_count_92 rfl (lv_at hl 0 rfl) ?_
    refine mgi C h m_there (by decide) rfl (v := 0) hthere rfl dM_count_93 ?_
    refine lv_if_eq (tgt := 106) hx hb dM_count_96 (by decide) (fun c96 => ?_) (fun c96 => absurd c96 (by decide))
    refine lv_iconst (v := 0) hx hb dM_count_106 (by decide) ?_
    exact KI.ret C hr hlk M h rfl ⟨rfl, by decide⟩ (by decide) (by decide) dM_count_107
  by_cases s1_2 : a1 = 2
  · subst s1_2
    refine lv_tableIn (off := 107) (tgt := 108) hx hb dM_count_1 (by decide) (by decide) (by decide) (by decide) ?_
    refine lv_aload_n hx hb dM_count_108 rfl (lv_at hl 0 rfl) ?_
    refine mgi C h m_there (by decide) rfl (v := 0) hthere rfl dM_count_109 ?_
    refine lv_if_eq (tgt := 122) hx hb dM_count_112 (by decide) (fun c112 => ?_) (fun c112 => absurd c112 (by decide))
    refine lv_iconst (v := 0) hx hb dM_count_122 (by decide) ?_
    exact KI.ret C hr hlk M h rfl ⟨rfl, by decide⟩ (by decide) (by decide) dM_count_123
  by_cases s1_3 : a1 = 3
  · subst s1_3
    refine lv_tableIn (off := 123) (tgt := 124) hx hb dM_count_1 (by decide) (by decide) (by decide) (by decide) ?_
    refine lv_aload_n hx hb dM_count_124 rfl (lv_at hl 0 rfl) ?_
    refine mgi C h m_there (by decide) rfl (v := 0) hthere rfl dM_count_125 ?_
    refine lv_if_eq (tgt := 138) hx hb dM_count_128 (by decide) (fun c128 => ?_) (fun c128 => absurd c128 (by decide))
    refine lv_iconst (v := 0) hx hb dM_count_138 (by decide) ?_
    exact KI.ret C hr hlk M h rfl ⟨rfl, by decide⟩ (by decide) (by decide) dM_count_139
  by_cases s1_4 : a1 = 4
  · subst s1_4
    refine lv_tableIn (off := 144) (tgt := 145) hx hb dM_count_1 (by decide) (by decide) (by decide) (by decide) ?_
    refine lv_iload_n hx hb dM_count_145 rfl (lv_at hl 1 rfl) ?_
    refine lv_if_lt (tgt := 155) hx hb dM_count_146 (by decide) (fun c146 => absurd c146 (by decide)) (fun c146 => ?_)
    refine lv_iload_n hx hb dM_count_149 rfl (lv_at hl 1 rfl) ?_
    refine lv_bipush (v := 18) hx hb dM_count_150 (by decide) ?_
    refine lv_icmp_le (tgt := 159) hx hb dM_count_152 (by decide) (fun c152 => ?_) (fun c152 => absurd c152 (by decide))
    refine lv_aload_n hx hb dM_count_159 rfl (lv_at hl 0 rfl) ?_
    refine mgi C h m_runs (by decide) rfl (v := 0) hruns rfl dM_count_160 ?_
    refine lv_if_eq (tgt := 174) hx hb dM_count_163 (by decide) (fun c163 => ?_) (fun c163 => absurd c163 (by decide))
    refine lv_iconst (v := 0) hx hb dM_count_174 (by decide) ?_
    exact KI.ret C hr hlk M h rfl ⟨rfl, by decide⟩ (by decide) (by decide) dM_count_175
  by_cases s1_5 : a1 = 5
  · subst s1_5
    refine lv_tableIn (off := 144) (tgt := 145) hx hb dM_count_1 (by decide) (by decide) (by decide) (by decide) ?_
    refine lv_iload_n hx hb dM_count_145 rfl (lv_at hl 1 rfl) ?_
    refine lv_if_lt (tgt := 155) hx hb dM_count_146 (by decide) (fun c146 => absurd c146 (by decide)) (fun c146 => ?_)
    refine lv_iload_n hx hb dM_count_149 rfl (lv_at hl 1 rfl) ?_
    refine lv_bipush (v := 18) hx hb dM_count_150 (by decide) ?_
    refine lv_icmp_le (tgt := 159) hx hb dM_count_152 (by decide) (fun c152 => ?_) (fun c152 => absurd c152 (by decide))
    refine lv_aload_n hx hb dM_count_159 rfl (lv_at hl 0 rfl) ?_
    refine mgi C h m_runs (by decide) rfl (v := 0) hruns rfl dM_count_160 ?_
    refine lv_if_eq (tgt := 174) hx hb dM_count_163 (by decide) (fun c163 => ?_) (fun c163 => absurd c163 (by decide))
    refine lv_iconst (v := 0) hx hb dM_count_174 (by decide) ?_
    exact KI.ret C hr hlk M h rfl ⟨rfl, by decide⟩ (by decide) (by decide) dM_count_175
  by_cases s1_6 : a1 = 6
  · subst s1_6
    refine lv_tableIn (off := 144) (tgt := 145) hx hb dM_count_1 (by decide) (by decide) (by decide) (by decide) ?_
    refine lv_iload_n hx hb dM_count_145 rfl (lv_at hl 1 rfl) ?_
    refine lv_if_lt (tgt := 155) hx hb dM_count_146 (by decide) (fun c146 => absurd c146 (by decide)) (fun c146 => ?_)
    refine lv_iload_n hx hb dM_count_149 rfl (lv_at hl 1 rfl) ?_
    refine lv_bipush (v := 18) hx hb dM_count_150 (by decide) ?_
    refine lv_icmp_le (tgt := 159) hx hb dM_count_152 (by decide) (fun c152 => ?_) (fun c152 => absurd c152 (by decide))
    refine lv_aload_n hx hb dM_count_159 rfl (lv_at hl 0 rfl) ?_
    refine mgi C h m_runs (by decide) rfl (v := 0) hruns rfl dM_count_160 ?_
    refine lv_if_eq (tgt := 174) hx hb dM_count_163 (by decide) (fun c163 => ?_) (fun c163 => absurd c163 (by decide))
    refine lv_iconst (v := 0) hx hb dM_count_174 (by decide) ?_
    exact KI.ret C hr hlk M h rfl ⟨rfl, by decide⟩ (by decide) (by decide) dM_count_175
  by_cases s1_7 : a1 = 7
  · subst s1_7
    refine lv_tableIn (off := 144) (tgt := 145) hx hb dM_count_1 (by decide) (by decide) (by decide) (by decide) ?_
    refine lv_iload_n hx hb dM_count_145 rfl (lv_at hl 1 rfl) ?_
    refine lv_if_lt (tgt := 155) hx hb dM_count_146 (by decide) (fun c146 => absurd c146 (by decide)) (fun c146 => ?_)
    refine lv_iload_n hx hb dM_count_149 rfl (lv_at hl 1 rfl) ?_
    refine lv_bipush (v := 18) hx hb dM_count_150 (by decide) ?_
    refine lv_icmp_le (tgt := 159) hx hb dM_count_152 (by decide) (fun c152 => ?_) (fun c152 => absurd c152 (by decide))
    refine lv_aload_n hx hb dM_count_159 rfl (lv_at hl 0 rfl) ?_
    refine mgi C h m_runs (by decide) rfl (v := 0) hruns rfl dM_count_160 ?_
    refine lv_if_eq (tgt := 174) hx hb dM_count_163 (by decide) (fun c163 => ?_) (fun c163 => absurd c163 (by decide))
    refine lv_iconst (v := 0) hx hb dM_count_174 (by decide) ?_
    exact KI.ret C hr hlk M h rfl ⟨rfl, by decide⟩ (by decide) (by decide) dM_count_175
  by_cases s1_8 : a1 = 8
  · subst s1_8
    refine lv_tableIn (off := 144) (tgt := 145) hx hb dM_count_1 (by decide) (by decide) (by decide) (by decide) ?_
    refine lv_iload_n hx hb dM_count_145 rfl (lv_at hl 1 rfl) ?_
    refine lv_if_lt (tgt := 155) hx hb dM_count_146 (by decide) (fun c146 => absurd c146 (by decide)) (fun c146 => ?_)
    refine lv_iload_n hx hb dM_count_149 rfl (lv_at hl 1 rfl) ?_
    refine lv_bipush (v := 18) hx hb dM_count_150 (by decide) ?_
    refine lv_icmp_le (tgt := 159) hx hb dM_count_152 (by decide) (fun c152 => ?_) (fun c152 => absurd c152 (by decide))
    refine lv_aload_n hx hb dM_count_159 rfl (lv_at hl 0 rfl) ?_
    refine mgi C h m_runs (by decide) rfl (v := 0) hruns rfl dM_count_160 ?_
    refine lv_if_eq (tgt := 174) hx hb dM_count_163 (by decide) (fun c163 => ?_) (fun c163 => absurd c163 (by decide))
    refine lv_iconst (v := 0) hx hb dM_count_174 (by decide) ?_
    exact KI.ret C hr hlk M h rfl ⟨rfl, by decide⟩ (by decide) (by decide) dM_count_175
  by_cases s1_9 : a1 = 9
  · subst s1_9
    refine lv_tableIn (off := 144) (tgt := 145) hx hb dM_count_1 (by decide) (by decide) (by decide) (by decide) ?_
    refine lv_iload_n hx hb dM_count_145 rfl (lv_at hl 1 rfl) ?_
    refine lv_if_lt (tgt := 155) hx hb dM_count_146 (by decide) (fun c146 => absurd c146 (by decide)) (fun c146 => ?_)
    refine lv_iload_n hx hb dM_count_149 rfl (lv_at hl 1 rfl) ?_
    refine lv_bipush (v := 18) hx hb dM_count_150 (by decide) ?_
    refine lv_icmp_le (tgt := 159) hx hb dM_count_152 (by decide) (fun c152 => ?_) (fun c152 => absurd c152 (by decide))
    refine lv_aload_n hx hb dM_count_159 rfl (lv_at hl 0 rfl) ?_
    refine mgi C h m_runs (by decide) rfl (v := 0) hruns rfl dM_count_160 ?_
    refine lv_if_eq (tgt := 174) hx hb dM_count_163 (by decide) (fun c163 => ?_) (fun c163 => absurd c163 (by decide))
    refine lv_iconst (v := 0) hx hb dM_count_174 (by decide) ?_
    exact KI.ret C hr hlk M h rfl ⟨rfl, by decide⟩ (by decide) (by decide) dM_count_175
  by_cases s1_10 : a1 = 10
  · subst s1_10
    refine lv_tableIn (off := 144) (tgt := 145) hx hb dM_count_1 (by decide) (by decide) (by decide) (by decide) ?_
    refine lv_iload_n hx hb dM_count_145 rfl (lv_at hl 1 rfl) ?_
    refine lv_if_lt (tgt := 155) hx hb dM_count_146 (by decide) (fun c146 => absurd c146 (by decide)) (fun c146 => ?_)
    refine lv_iload_n hx hb dM_count_149 rfl (lv_at hl 1 rfl) ?_
    refine lv_bipush (v := 18) hx hb dM_count_150 (by decide) ?_
    refine lv_icmp_le (tgt := 159) hx hb dM_count_152 (by decide) (fun c152 => ?_) (fun c152 => absurd c152 (by decide))
    refine lv_aload_n hx hb dM_count_159 rfl (lv_at hl 0 rfl) ?_
    refine mgi C h m_runs (by decide) rfl (v := 0) hruns rfl dM_count_160 ?_
    refine lv_if_eq (tgt := 174) hx hb dM_count_163 (by decide) (fun c163 => ?_) (fun c163 => absurd c163 (by decide))
    refine lv_iconst (v := 0) hx hb dM_count_174 (by decide) ?_
    exact KI.ret C hr hlk M h rfl ⟨rfl, by decide⟩ (by decide) (by decide) dM_count_175
  by_cases s1_11 : a1 = 11
  · subst s1_11
    refine lv_tableIn (off := 144) (tgt := 145) hx hb dM_count_1 (by decide) (by decide) (by decide) (by decide) ?_
    refine lv_iload_n hx hb dM_count_145 rfl (lv_at hl 1 rfl) ?_
    refine lv_if_lt (tgt := 155) hx hb dM_count_146 (by decide) (fun c146 => absurd c146 (by decide)) (fun c146 => ?_)
    refine lv_iload_n hx hb dM_count_149 rfl (lv_at hl 1 rfl) ?_
    refine lv_bipush (v := 18) hx hb dM_count_150 (by decide) ?_
    refine lv_icmp_le (tgt := 159) hx hb dM_count_152 (by decide) (fun c152 => ?_) (fun c152 => absurd c152 (by decide))
    refine lv_aload_n hx hb dM_count_159 rfl (lv_at hl 0 rfl) ?_
    refine mgi C h m_runs (by decide) rfl (v := 0) hruns rfl dM_count_160 ?_
    refine lv_if_eq (tgt := 174) hx hb dM_count_163 (by decide) (fun c163 => ?_) (fun c163 => absurd c163 (by decide))
    refine lv_iconst (v := 0) hx hb dM_count_174 (by decide) ?_
    exact KI.ret C hr hlk M h rfl ⟨rfl, by decide⟩ (by decide) (by decide) dM_count_175
  by_cases s1_12 : a1 = 12
  · subst s1_12
    refine lv_tableIn (off := 144) (tgt := 145) hx hb dM_count_1 (by decide) (by decide) (by decide) (by decide) ?_
    refine lv_iload_n hx hb dM_count_145 rfl (lv_at hl 1 rfl) ?_
    refine lv_if_lt (tgt := 155) hx hb dM_count_146 (by decide) (fun c146 => absurd c146 (by decide)) (fun c146 => ?_)
    refine lv_iload_n hx hb dM_count_149 rfl (lv_at hl 1 rfl) ?_
    refine lv_bipush (v := 18) hx hb dM_count_150 (by decide) ?_
    refine lv_icmp_le (tgt := 159) hx hb dM_count_152 (by decide) (fun c152 => ?_) (fun c152 => absurd c152 (by decide))
    refine lv_aload_n hx hb dM_count_159 rfl (lv_at hl 0 rfl) ?_
    refine mgi C h m_runs (by decide) rfl (v := 0) hruns rfl dM_count_160 ?_
    refine lv_if_eq (tgt := 174) hx hb dM_count_163 (by decide) (fun c163 => ?_) (fun c163 => absurd c163 (by decide))
    refine lv_iconst (v := 0) hx hb dM_count_174 (by decide) ?_
    exact KI.ret C hr hlk M h rfl ⟨rfl, by decide⟩ (by decide) (by decide) dM_count_175
  by_cases s1_13 : a1 = 13
  · subst s1_13
    refine lv_tableIn (off := 144) (tgt := 145) hx hb dM_count_1 (by decide) (by decide) (by decide) (by decide) ?_
    refine lv_iload_n hx hb dM_count_145 rfl (lv_at hl 1 rfl) ?_
    refine lv_if_lt (tgt := 155) hx hb dM_count_146 (by decide) (fun c146 => absurd c146 (by decide)) (fun c146 => ?_)
    refine lv_iload_n hx hb dM_count_149 rfl (lv_at hl 1 rfl) ?_
    refine lv_bipush (v := 18) hx hb dM_count_150 (by decide) ?_
    refine lv_icmp_le (tgt := 159) hx hb dM_count_152 (by decide) (fun c152 => ?_) (fun c152 => absurd c152 (by decide))
    refine lv_aload_n hx hb dM_count_159 rfl (lv_at hl 0 rfl) ?_
    refine mgi C h m_runs (by decide) rfl (v := 0) hruns rfl dM_count_160 ?_
    refine lv_if_eq (tgt := 174) hx hb dM_count_163 (by decide) (fun c163 => ?_) (fun c163 => absurd c163 (by decide))
    refine lv_iconst (v := 0) hx hb dM_count_174 (by decide) ?_
    exact KI.ret C hr hlk M h rfl ⟨rfl, by decide⟩ (by decide) (by decide) dM_count_175
  by_cases s1_14 : a1 = 14
  · subst s1_14
    refine lv_tableIn (off := 139) (tgt := 140) hx hb dM_count_1 (by decide) (by decide) (by decide) (by decide) ?_
    refine lv_aload_n hx hb dM_count_140 rfl (lv_at hl 0 rfl) ?_
    refine mgi C h m_taped (by decide) rfl (v := 0) htap rfl dM_count_141 ?_
    exact KI.ret C hr hlk M h rfl ⟨rfl, by decide⟩ (by decide) (by decide) dM_count_144
  have z1_0 := lv_neT (a := 0) s1_0 (by decide)
  have z1_1 := lv_neT (a := 1) s1_1 (by decide)
  have z1_2 := lv_neT (a := 2) s1_2 (by decide)
  have z1_3 := lv_neT (a := 3) s1_3 (by decide)
  have z1_4 := lv_neT (a := 4) s1_4 (by decide)
  have z1_5 := lv_neT (a := 5) s1_5 (by decide)
  have z1_6 := lv_neT (a := 6) s1_6 (by decide)
  have z1_7 := lv_neT (a := 7) s1_7 (by decide)
  have z1_8 := lv_neT (a := 8) s1_8 (by decide)
  have z1_9 := lv_neT (a := 9) s1_9 (by decide)
  have z1_10 := lv_neT (a := 10) s1_10 (by decide)
  have z1_11 := lv_neT (a := 11) s1_11 (by decide)
  have z1_12 := lv_neT (a := 12) s1_12 (by decide)
  have z1_13 := lv_neT (a := 13) s1_13 (by decide)
  have z1_14 := lv_neT (a := 14) s1_14 (by decide)
  have z1 : (a1).toInt < 0 ∨ 14 < (a1).toInt := by omega
  refine lv_tableOut (tgt := 145) hx hb dM_count_1 z1 (by decide) ?_
  refine lv_iload_n hx hb dM_count_145 rfl (lv_at hl 1 rfl) ?_
  refine lv_if_lt (tgt := 155) hx hb dM_count_146 (by decide) (fun c146 => ?_) (fun c146 => ?_)
  · refine lv_iconst (v := -1) hx hb dM_count_155 (by decide) ?_
    refine lv_goto (tgt := 175) hx hb dM_count_156 (by decide) ?_
    exact KI.ret C hr hlk M h rfl ⟨rfl, by simp [nCount, c146]⟩ (by decide) (by decide) dM_count_175
  · refine lv_iload_n hx hb dM_count_149 rfl (lv_at hl 1 rfl) ?_
    refine lv_bipush (v := 18) hx hb dM_count_150 (by decide) ?_
    refine lv_icmp_le (tgt := 159) hx hb dM_count_152 (by decide) (fun c152 => ?_) (fun c152 => ?_)
    · refine lv_aload_n hx hb dM_count_159 rfl (lv_at hl 0 rfl) ?_
      refine mgi C h m_runs (by decide) rfl (v := 0) hruns rfl dM_count_160 ?_
      refine lv_if_eq (tgt := 174) hx hb dM_count_163 (by decide) (fun c163 => ?_) (fun c163 => absurd c163 (by decide))
      refine lv_iconst (v := 0) hx hb dM_count_174 (by decide) ?_
      exact KI.ret C hr hlk M h rfl ⟨rfl, by simp [nCount, c146, c152]⟩ (by decide) (by decide) dM_count_175
    · refine lv_iconst (v := -1) hx hb dM_count_155 (by decide) ?_
      refine lv_goto (tgt := 175) hx hb dM_count_156 (by decide) ?_
      exact KI.ret C hr hlk M h rfl ⟨rfl, by simp [nCount, c146, c152]⟩ (by decide) (by decide) dM_count_175

def nChoices (a : Int32) : Int32 := if a = 0 then 0 else if a = 1 then 0 else -1
set_option maxHeartbeats 4000000 in
set_option maxRecDepth 100000 in
/-- choices() on a fresh object -/
theorem t_choices (l : Launch) (g : GG) (o : Nat) (ad : Nat → Nat) (M : MS) (a1 : Int32) (hlt : M.1 m_linesTold = 0) (hck : M.1 m_choicesKept = 0) : KI l yM_choices cM_choices 2 (some .int) (rD 0 0 0) g (mW g o ad M) (mW g o ad) [.ref o, .int (a1)] (fun (r : Int32) (M' : MS) => M' = M ∧ r = nChoices a1) := by
  refine KI.of (by decide) (Nat.le_of_ble_eq_true rfl) ?_
  intro p e s m below meth c A ls C hr hlk hnm h hl
  have hx := C.1.1
  have hb := C.1.2.1
  have hl : lv_has ls 2 [(0, .ref o), (1, .int (a1))] := hl
  refine lv_iload_n hx hb dM_choices_0 rfl (lv_at hl 1 rfl) ?_
  refine lv_if_ne (tgt := 11) hx hb dM_choices_1 (by decide) (fun c1 => ?_) (fun c1 => ?_)
  · refine lv_iload_n hx hb dM_choices_11 rfl (lv_at hl 1 rfl) ?_
    refine lv_iconst (v := 1) hx hb dM_choices_12 (by decide) ?_
    refine lv_icmp_ne (tgt := 23) hx hb dM_choices_13 (by decide) (fun c13 => ?_) (fun c13 => ?_)
    · refine lv_iconst (v := -1) hx hb dM_choices_23 (by decide) ?_
      exact KI.ret C hr hlk M h rfl ⟨rfl, by simp [nChoices, c1, c13]⟩ (by decide) (by decide) dM_choices_24
    · refine lv_aload_n hx hb dM_choices_16 rfl (lv_at hl 0 rfl) ?_
      refine mgi C h m_choicesKept (by decide) rfl (v := 0) hck rfl dM_choices_17 ?_
      refine lv_goto (tgt := 24) hx hb dM_choices_20 (by decide) ?_
      exact KI.ret C hr hlk M h rfl ⟨rfl, by simp [nChoices, c1, c13]⟩ (by decide) (by decide) dM_choices_24
  · refine lv_aload_n hx hb dM_choices_4 rfl (lv_at hl 0 rfl) ?_
    refine mgi C h m_linesTold (by decide) rfl (v := 0) hlt rfl dM_choices_5 ?_
    refine lv_goto (tgt := 24) hx hb dM_choices_8 (by decide) ?_
    exact KI.ret C hr hlk M h rfl ⟨rfl, by simp [nChoices, c1]⟩ (by decide) (by decide) dM_choices_24

set_option maxHeartbeats 4000000 in
set_option maxRecDepth 100000 in
/-- four(): taped grows -/
theorem t_four0 (l : Launch) (g : GG) (o : Nat) (ad : Nat → Nat) (M : MS) (a1 : Int32) (htap : M.1 m_taped = 0) : KV l yM_four cM_four 3 (rD 0 0 0) g (mW g o ad M) (mW g o ad) [.ref o, .int (a1)] (fun M' : MS => M'.1 m_taped = 4) := by
  refine KV.of (by decide) (Nat.le_of_ble_eq_true rfl) ?_
  intro p e s m below meth c A ls C hr hlk hnm h hl
  have hx := C.1.1
  have hb := C.1.2.1
  have hl : lv_has ls 3 [(0, .ref o), (1, .int (a1))] := hl
  refine lv_bipush (v := 24) hx hb dM_four_0 (by decide) ?_
  refine lv_istore_n (lv' := [(2, .int (24)), (0, .ref o), (1, .int (a1))]) hx hb dM_four_2 rfl hl (by decide) rfl (fun ls hl => ?_)
  refine lv_iload_n hx hb dM_four_3 rfl (lv_at hl 0 rfl) ?_
  refine lv_if_lt (tgt := 36) hx hb dM_four_4 (by decide) (fun c4 => absurd c4 (by decide)) (fun c4 => ?_)
  refine lv_aload_n hx hb dM_four_7 rfl (lv_at hl 1 rfl) ?_
  refine mga C h m_tape (by decide) (by decide) rfl dM_four_8 ?_
  refine lv_aload_n hx hb dM_four_11 rfl (lv_at hl 1 rfl) ?_
  refine mgi C h m_taped (by decide) rfl (v := 0) htap rfl dM_four_12 ?_
  refine lv_iload_n hx hb dM_four_15 rfl (lv_at hl 2 rfl) ?_
  refine lv_iload_n hx hb dM_four_16 rfl (lv_at hl 0 rfl) ?_
  refine lv_ishr hx hb dM_four_17 ?_
  refine lv_i2b hx hb dM_four_18 rfl ?_
  refine msb C h m_tape (by decide) rfl (pk_in 0 5000 (by decide) rfl) dM_four_19 (fun H locs h => ?_)
  refine lv_aload_n hx hb dM_four_20 rfl (lv_at hl 1 rfl) ?_
  refine lv_dup hx hb dM_four_21 rfl ?_
  refine mgi C h m_taped (by decide) rfl (v := 0) htap rfl dM_four_22 ?_
  refine lv_iconst (v := 1) hx hb dM_four_25 (by decide) ?_
  refine lv_iadd hx hb dM_four_26 ?_
  refine lv_topi (fun n_1 en_1 => ?_)
  have en_1 : n_1 = 1 := en_1.trans (by decide)
  subst en_1
  refine mpi C h m_taped (by decide) rfl rfl rfl (v := 1) rfl rfl dM_four_27 (fun H locs h => ?_)
  refine lv_iinc (v := 16) (lv' := [(2, .int (16)), (0, .ref o), (1, .int (a1))]) hx hb dM_four_30 hl (k := 0) rfl (by decide) (by decide) rfl (fun ls hl => ?_)
  refine lv_goto (tgt := 3) hx hb dM_four_33 (by decide) ?_
  refine lv_iload_n hx hb dM_four_3 rfl (lv_at hl 0 rfl) ?_
  refine lv_if_lt (tgt := 36) hx hb dM_four_4 (by decide) (fun c4 => absurd c4 (by decide)) (fun c4 => ?_)
  refine lv_aload_n hx hb dM_four_7 rfl (lv_at hl 1 rfl) ?_
  refine mga C h m_tape (by decide) (by decide) rfl dM_four_8 ?_
  refine lv_aload_n hx hb dM_four_11 rfl (lv_at hl 1 rfl) ?_
  refine mgi C h m_taped (by decide) rfl (v := 1) rfl rfl dM_four_12 ?_
  refine lv_iload_n hx hb dM_four_15 rfl (lv_at hl 2 rfl) ?_
  refine lv_iload_n hx hb dM_four_16 rfl (lv_at hl 0 rfl) ?_
  refine lv_ishr hx hb dM_four_17 ?_
  refine lv_i2b hx hb dM_four_18 rfl ?_
  refine msb C h m_tape (by decide) rfl (pk_in 1 5000 (by decide) rfl) dM_four_19 (fun H locs h => ?_)
  refine lv_aload_n hx hb dM_four_20 rfl (lv_at hl 1 rfl) ?_
  refine lv_dup hx hb dM_four_21 rfl ?_
  refine mgi C h m_taped (by decide) rfl (v := 1) rfl rfl dM_four_22 ?_
  refine lv_iconst (v := 1) hx hb dM_four_25 (by decide) ?_
  refine lv_iadd hx hb dM_four_26 ?_
  refine lv_topi (fun n_2 en_2 => ?_)
  have en_2 : n_2 = 2 := en_2.trans (by decide)
  subst en_2
  refine mpi C h m_taped (by decide) rfl rfl rfl (v := 2) rfl rfl dM_four_27 (fun H locs h => ?_)
  refine lv_iinc (v := 8) (lv' := [(2, .int (8)), (0, .ref o), (1, .int (a1))]) hx hb dM_four_30 hl (k := 0) rfl (by decide) (by decide) rfl (fun ls hl => ?_)
  refine lv_goto (tgt := 3) hx hb dM_four_33 (by decide) ?_
  refine lv_iload_n hx hb dM_four_3 rfl (lv_at hl 0 rfl) ?_
  refine lv_if_lt (tgt := 36) hx hb dM_four_4 (by decide) (fun c4 => absurd c4 (by decide)) (fun c4 => ?_)
  refine lv_aload_n hx hb dM_four_7 rfl (lv_at hl 1 rfl) ?_
  refine mga C h m_tape (by decide) (by decide) rfl dM_four_8 ?_
  refine lv_aload_n hx hb dM_four_11 rfl (lv_at hl 1 rfl) ?_
  refine mgi C h m_taped (by decide) rfl (v := 2) rfl rfl dM_four_12 ?_
  refine lv_iload_n hx hb dM_four_15 rfl (lv_at hl 2 rfl) ?_
  refine lv_iload_n hx hb dM_four_16 rfl (lv_at hl 0 rfl) ?_
  refine lv_ishr hx hb dM_four_17 ?_
  refine lv_i2b hx hb dM_four_18 rfl ?_
  refine msb C h m_tape (by decide) rfl (pk_in 2 5000 (by decide) rfl) dM_four_19 (fun H locs h => ?_)
  refine lv_aload_n hx hb dM_four_20 rfl (lv_at hl 1 rfl) ?_
  refine lv_dup hx hb dM_four_21 rfl ?_
  refine mgi C h m_taped (by decide) rfl (v := 2) rfl rfl dM_four_22 ?_
  refine lv_iconst (v := 1) hx hb dM_four_25 (by decide) ?_
  refine lv_iadd hx hb dM_four_26 ?_
  refine lv_topi (fun n_3 en_3 => ?_)
  have en_3 : n_3 = 3 := en_3.trans (by decide)
  subst en_3
  refine mpi C h m_taped (by decide) rfl rfl rfl (v := 3) rfl rfl dM_four_27 (fun H locs h => ?_)
  refine lv_iinc (v := 0) (lv' := [(2, .int (0)), (0, .ref o), (1, .int (a1))]) hx hb dM_four_30 hl (k := 0) rfl (by decide) (by decide) rfl (fun ls hl => ?_)
  refine lv_goto (tgt := 3) hx hb dM_four_33 (by decide) ?_
  refine lv_iload_n hx hb dM_four_3 rfl (lv_at hl 0 rfl) ?_
  refine lv_if_lt (tgt := 36) hx hb dM_four_4 (by decide) (fun c4 => absurd c4 (by decide)) (fun c4 => ?_)
  refine lv_aload_n hx hb dM_four_7 rfl (lv_at hl 1 rfl) ?_
  refine mga C h m_tape (by decide) (by decide) rfl dM_four_8 ?_
  refine lv_aload_n hx hb dM_four_11 rfl (lv_at hl 1 rfl) ?_
  refine mgi C h m_taped (by decide) rfl (v := 3) rfl rfl dM_four_12 ?_
  refine lv_iload_n hx hb dM_four_15 rfl (lv_at hl 2 rfl) ?_
  refine lv_iload_n hx hb dM_four_16 rfl (lv_at hl 0 rfl) ?_
  refine lv_ishr hx hb dM_four_17 ?_
  refine lv_i2b hx hb dM_four_18 rfl ?_
  refine msb C h m_tape (by decide) rfl (pk_in 3 5000 (by decide) rfl) dM_four_19 (fun H locs h => ?_)
  refine lv_aload_n hx hb dM_four_20 rfl (lv_at hl 1 rfl) ?_
  refine lv_dup hx hb dM_four_21 rfl ?_
  refine mgi C h m_taped (by decide) rfl (v := 3) rfl rfl dM_four_22 ?_
  refine lv_iconst (v := 1) hx hb dM_four_25 (by decide) ?_
  refine lv_iadd hx hb dM_four_26 ?_
  refine lv_topi (fun n_4 en_4 => ?_)
  have en_4 : n_4 = 4 := en_4.trans (by decide)
  subst en_4
  refine mpi C h m_taped (by decide) rfl rfl rfl (v := 4) rfl rfl dM_four_27 (fun H locs h => ?_)
  refine lv_iinc (v := -8) (lv' := [(2, .int (-8)), (0, .ref o), (1, .int (a1))]) hx hb dM_four_30 hl (k := 0) rfl (by decide) (by decide) rfl (fun ls hl => ?_)
  refine lv_goto (tgt := 3) hx hb dM_four_33 (by decide) ?_
  refine lv_iload_n hx hb dM_four_3 rfl (lv_at hl 0 rfl) ?_
  refine lv_if_lt (tgt := 36) hx hb dM_four_4 (by decide) (fun c4 => ?_) (fun c4 => absurd c4 (by decide))
  exact KV.ret C hr hlk (mput (mseti (mput (mseti (mput (mseti (mput (mseti M m_tape (0 : Int32).toNatClampNeg (vp_nar .byte (((a1 >>> (24 &&& 31))).toInt8.toInt32))) m_taped 1) m_tape (1 : Int32).toNatClampNeg (vp_nar .byte (((a1 >>> (16 &&& 31))).toInt8.toInt32))) m_taped 2) m_tape (2 : Int32).toNatClampNeg (vp_nar .byte (((a1 >>> (8 &&& 31))).toInt8.toInt32))) m_taped 3) m_tape (3 : Int32).toNatClampNeg (vp_nar .byte (((a1 >>> (0 &&& 31))).toInt8.toInt32))) m_taped 4) h rfl (by decide) (by decide) dM_four_36

set_option maxHeartbeats 4000000 in
set_option maxRecDepth 100000 in
/-- four(): taped grows -/
theorem t_four4 (l : Launch) (g : GG) (o : Nat) (ad : Nat → Nat) (M : MS) (a1 : Int32) (htap : M.1 m_taped = 4) : KV l yM_four cM_four 3 (rD 0 0 0) g (mW g o ad M) (mW g o ad) [.ref o, .int (a1)] (fun M' : MS => M'.1 m_taped = 8) := by
  refine KV.of (by decide) (Nat.le_of_ble_eq_true rfl) ?_
  intro p e s m below meth c A ls C hr hlk hnm h hl
  have hx := C.1.1
  have hb := C.1.2.1
  have hl : lv_has ls 3 [(0, .ref o), (1, .int (a1))] := hl
  refine lv_bipush (v := 24) hx hb dM_four_0 (by decide) ?_
  refine lv_istore_n (lv' := [(2, .int (24)), (0, .ref o), (1, .int (a1))]) hx hb dM_four_2 rfl hl (by decide) rfl (fun ls hl => ?_)
  refine lv_iload_n hx hb dM_four_3 rfl (lv_at hl 0 rfl) ?_
  refine lv_if_lt (tgt := 36) hx hb dM_four_4 (by decide) (fun c4 => absurd c4 (by decide)) (fun c4 => ?_)
  refine lv_aload_n hx hb dM_four_7 rfl (lv_at hl 1 rfl) ?_
  refine mga C h m_tape (by decide) (by decide) rfl dM_four_8 ?_
  refine lv_aload_n hx hb dM_four_11 rfl (lv_at hl 1 rfl) ?_
  refine mgi C h m_taped (by decide) rfl (v := 4) htap rfl dM_four_12 ?_
  refine lv_iload_n hx hb dM_four_15 rfl (lv_at hl 2 rfl) ?_
  refine lv_iload_n hx hb dM_four_16 rfl (lv_at hl 0 rfl) ?_
  refine lv_ishr hx hb dM_four_17 ?_
  refine lv_i2b hx hb dM_four_18 rfl ?_
  refine msb C h m_tape (by decide) rfl (pk_in 4 5000 (by decide) rfl) dM_four_19 (fun H locs h => ?_)
  refine lv_aload_n hx hb dM_four_20 rfl (lv_at hl 1 rfl) ?_
  refine lv_dup hx hb dM_four_21 rfl ?_
  refine mgi C h m_taped (by decide) rfl (v := 4) htap rfl dM_four_22 ?_
  refine lv_iconst (v := 1) hx hb dM_four_25 (by decide) ?_
  refine lv_iadd hx hb dM_four_26 ?_
  refine lv_topi (fun n_1 en_1 => ?_)
  have en_1 : n_1 = 5 := en_1.trans (by decide)
  subst en_1
  refine mpi C h m_taped (by decide) rfl rfl rfl (v := 5) rfl rfl dM_four_27 (fun H locs h => ?_)
  refine lv_iinc (v := 16) (lv' := [(2, .int (16)), (0, .ref o), (1, .int (a1))]) hx hb dM_four_30 hl (k := 0) rfl (by decide) (by decide) rfl (fun ls hl => ?_)
  refine lv_goto (tgt := 3) hx hb dM_four_33 (by decide) ?_
  refine lv_iload_n hx hb dM_four_3 rfl (lv_at hl 0 rfl) ?_
  refine lv_if_lt (tgt := 36) hx hb dM_four_4 (by decide) (fun c4 => absurd c4 (by decide)) (fun c4 => ?_)
  refine lv_aload_n hx hb dM_four_7 rfl (lv_at hl 1 rfl) ?_
  refine mga C h m_tape (by decide) (by decide) rfl dM_four_8 ?_
  refine lv_aload_n hx hb dM_four_11 rfl (lv_at hl 1 rfl) ?_
  refine mgi C h m_taped (by decide) rfl (v := 5) rfl rfl dM_four_12 ?_
  refine lv_iload_n hx hb dM_four_15 rfl (lv_at hl 2 rfl) ?_
  refine lv_iload_n hx hb dM_four_16 rfl (lv_at hl 0 rfl) ?_
  refine lv_ishr hx hb dM_four_17 ?_
  refine lv_i2b hx hb dM_four_18 rfl ?_
  refine msb C h m_tape (by decide) rfl (pk_in 5 5000 (by decide) rfl) dM_four_19 (fun H locs h => ?_)
  refine lv_aload_n hx hb dM_four_20 rfl (lv_at hl 1 rfl) ?_
  refine lv_dup hx hb dM_four_21 rfl ?_
  refine mgi C h m_taped (by decide) rfl (v := 5) rfl rfl dM_four_22 ?_
  refine lv_iconst (v := 1) hx hb dM_four_25 (by decide) ?_
  refine lv_iadd hx hb dM_four_26 ?_
  refine lv_topi (fun n_2 en_2 => ?_)
  have en_2 : n_2 = 6 := en_2.trans (by decide)
  subst en_2
  refine mpi C h m_taped (by decide) rfl rfl rfl (v := 6) rfl rfl dM_four_27 (fun H locs h => ?_)
  refine lv_iinc (v := 8) (lv' := [(2, .int (8)), (0, .ref o), (1, .int (a1))]) hx hb dM_four_30 hl (k := 0) rfl (by decide) (by decide) rfl (fun ls hl => ?_)
  refine lv_goto (tgt := 3) hx hb dM_four_33 (by decide) ?_
  refine lv_iload_n hx hb dM_four_3 rfl (lv_at hl 0 rfl) ?_
  refine lv_if_lt (tgt := 36) hx hb dM_four_4 (by decide) (fun c4 => absurd c4 (by decide)) (fun c4 => ?_)
  refine lv_aload_n hx hb dM_four_7 rfl (lv_at hl 1 rfl) ?_
  refine mga C h m_tape (by decide) (by decide) rfl dM_four_8 ?_
  refine lv_aload_n hx hb dM_four_11 rfl (lv_at hl 1 rfl) ?_
  refine mgi C h m_taped (by decide) rfl (v := 6) rfl rfl dM_four_12 ?_
  refine lv_iload_n hx hb dM_four_15 rfl (lv_at hl 2 rfl) ?_
  refine lv_iload_n hx hb dM_four_16 rfl (lv_at hl 0 rfl) ?_
  refine lv_ishr hx hb dM_four_17 ?_
  refine lv_i2b hx hb dM_four_18 rfl ?_
  refine msb C h m_tape (by decide) rfl (pk_in 6 5000 (by decide) rfl) dM_four_19 (fun H locs h => ?_)
  refine lv_aload_n hx hb dM_four_20 rfl (lv_at hl 1 rfl) ?_
  refine lv_dup hx hb dM_four_21 rfl ?_
  refine mgi C h m_taped (by decide) rfl (v := 6) rfl rfl dM_four_22 ?_
  refine lv_iconst (v := 1) hx hb dM_four_25 (by decide) ?_
  refine lv_iadd hx hb dM_four_26 ?_
  refine lv_topi (fun n_3 en_3 => ?_)
  have en_3 : n_3 = 7 := en_3.trans (by decide)
  subst en_3
  refine mpi C h m_taped (by decide) rfl rfl rfl (v := 7) rfl rfl dM_four_27 (fun H locs h => ?_)
  refine lv_iinc (v := 0) (lv' := [(2, .int (0)), (0, .ref o), (1, .int (a1))]) hx hb dM_four_30 hl (k := 0) rfl (by decide) (by decide) rfl (fun ls hl => ?_)
  refine lv_goto (tgt := 3) hx hb dM_four_33 (by decide) ?_
  refine lv_iload_n hx hb dM_four_3 rfl (lv_at hl 0 rfl) ?_
  refine lv_if_lt (tgt := 36) hx hb dM_four_4 (by decide) (fun c4 => absurd c4 (by decide)) (fun c4 => ?_)
  refine lv_aload_n hx hb dM_four_7 rfl (lv_at hl 1 rfl) ?_
  refine mga C h m_tape (by decide) (by decide) rfl dM_four_8 ?_
  refine lv_aload_n hx hb dM_four_11 rfl (lv_at hl 1 rfl) ?_
  refine mgi C h m_taped (by decide) rfl (v := 7) rfl rfl dM_four_12 ?_
  refine lv_iload_n hx hb dM_four_15 rfl (lv_at hl 2 rfl) ?_
  refine lv_iload_n hx hb dM_four_16 rfl (lv_at hl 0 rfl) ?_
  refine lv_ishr hx hb dM_four_17 ?_
  refine lv_i2b hx hb dM_four_18 rfl ?_
  refine msb C h m_tape (by decide) rfl (pk_in 7 5000 (by decide) rfl) dM_four_19 (fun H locs h => ?_)
  refine lv_aload_n hx hb dM_four_20 rfl (lv_at hl 1 rfl) ?_
  refine lv_dup hx hb dM_four_21 rfl ?_
  refine mgi C h m_taped (by decide) rfl (v := 7) rfl rfl dM_four_22 ?_
  refine lv_iconst (v := 1) hx hb dM_four_25 (by decide) ?_
  refine lv_iadd hx hb dM_four_26 ?_
  refine lv_topi (fun n_4 en_4 => ?_)
  have en_4 : n_4 = 8 := en_4.trans (by decide)
  subst en_4
  refine mpi C h m_taped (by decide) rfl rfl rfl (v := 8) rfl rfl dM_four_27 (fun H locs h => ?_)
  refine lv_iinc (v := -8) (lv' := [(2, .int (-8)), (0, .ref o), (1, .int (a1))]) hx hb dM_four_30 hl (k := 0) rfl (by decide) (by decide) rfl (fun ls hl => ?_)
  refine lv_goto (tgt := 3) hx hb dM_four_33 (by decide) ?_
  refine lv_iload_n hx hb dM_four_3 rfl (lv_at hl 0 rfl) ?_
  refine lv_if_lt (tgt := 36) hx hb dM_four_4 (by decide) (fun c4 => ?_) (fun c4 => absurd c4 (by decide))
  exact KV.ret C hr hlk (mput (mseti (mput (mseti (mput (mseti (mput (mseti M m_tape (4 : Int32).toNatClampNeg (vp_nar .byte (((a1 >>> (24 &&& 31))).toInt8.toInt32))) m_taped 5) m_tape (5 : Int32).toNatClampNeg (vp_nar .byte (((a1 >>> (16 &&& 31))).toInt8.toInt32))) m_taped 6) m_tape (6 : Int32).toNatClampNeg (vp_nar .byte (((a1 >>> (8 &&& 31))).toInt8.toInt32))) m_taped 7) m_tape (7 : Int32).toNatClampNeg (vp_nar .byte (((a1 >>> (0 &&& 31))).toInt8.toInt32))) m_taped 8) h rfl (by decide) (by decide) dM_four_36

set_option maxHeartbeats 4000000 in
set_option maxRecDepth 100000 in
/-- four(): taped grows -/
theorem t_four8 (l : Launch) (g : GG) (o : Nat) (ad : Nat → Nat) (M : MS) (a1 : Int32) (htap : M.1 m_taped = 8) : KV l yM_four cM_four 3 (rD 0 0 0) g (mW g o ad M) (mW g o ad) [.ref o, .int (a1)] (fun M' : MS => M'.1 m_taped = 12) := by
  refine KV.of (by decide) (Nat.le_of_ble_eq_true rfl) ?_
  intro p e s m below meth c A ls C hr hlk hnm h hl
  have hx := C.1.1
  have hb := C.1.2.1
  have hl : lv_has ls 3 [(0, .ref o), (1, .int (a1))] := hl
  refine lv_bipush (v := 24) hx hb dM_four_0 (by decide) ?_
  refine lv_istore_n (lv' := [(2, .int (24)), (0, .ref o), (1, .int (a1))]) hx hb dM_four_2 rfl hl (by decide) rfl (fun ls hl => ?_)
  refine lv_iload_n hx hb dM_four_3 rfl (lv_at hl 0 rfl) ?_
  refine lv_if_lt (tgt := 36) hx hb dM_four_4 (by decide) (fun c4 => absurd c4 (by decide)) (fun c4 => ?_)
  refine lv_aload_n hx hb dM_four_7 rfl (lv_at hl 1 rfl) ?_
  refine mga C h m_tape (by decide) (by decide) rfl dM_four_8 ?_
  refine lv_aload_n hx hb dM_four_11 rfl (lv_at hl 1 rfl) ?_
  refine mgi C h m_taped (by decide) rfl (v := 8) htap rfl dM_four_12 ?_
  refine lv_iload_n hx hb dM_four_15 rfl (lv_at hl 2 rfl) ?_
  refine lv_iload_n hx hb dM_four_16 rfl (lv_at hl 0 rfl) ?_
  refine lv_ishr hx hb dM_four_17 ?_
  refine lv_i2b hx hb dM_four_18 rfl ?_
  refine msb C h m_tape (by decide) rfl (pk_in 8 5000 (by decide) rfl) dM_four_19 (fun H locs h => ?_)
  refine lv_aload_n hx hb dM_four_20 rfl (lv_at hl 1 rfl) ?_
  refine lv_dup hx hb dM_four_21 rfl ?_
  refine mgi C h m_taped (by decide) rfl (v := 8) htap rfl dM_four_22 ?_
  refine lv_iconst (v := 1) hx hb dM_four_25 (by decide) ?_
  refine lv_iadd hx hb dM_four_26 ?_
  refine lv_topi (fun n_1 en_1 => ?_)
  have en_1 : n_1 = 9 := en_1.trans (by decide)
  subst en_1
  refine mpi C h m_taped (by decide) rfl rfl rfl (v := 9) rfl rfl dM_four_27 (fun H locs h => ?_)
  refine lv_iinc (v := 16) (lv' := [(2, .int (16)), (0, .ref o), (1, .int (a1))]) hx hb dM_four_30 hl (k := 0) rfl (by decide) (by decide) rfl (fun ls hl => ?_)
  refine lv_goto (tgt := 3) hx hb dM_four_33 (by decide) ?_
  refine lv_iload_n hx hb dM_four_3 rfl (lv_at hl 0 rfl) ?_
  refine lv_if_lt (tgt := 36) hx hb dM_four_4 (by decide) (fun c4 => absurd c4 (by decide)) (fun c4 => ?_)
  refine lv_aload_n hx hb dM_four_7 rfl (lv_at hl 1 rfl) ?_
  refine mga C h m_tape (by decide) (by decide) rfl dM_four_8 ?_
  refine lv_aload_n hx hb dM_four_11 rfl (lv_at hl 1 rfl) ?_
  refine mgi C h m_taped (by decide) rfl (v := 9) rfl rfl dM_four_12 ?_
  refine lv_iload_n hx hb dM_four_15 rfl (lv_at hl 2 rfl) ?_
  refine lv_iload_n hx hb dM_four_16 rfl (lv_at hl 0 rfl) ?_
  refine lv_ishr hx hb dM_four_17 ?_
  refine lv_i2b hx hb dM_four_18 rfl ?_
  refine msb C h m_tape (by decide) rfl (pk_in 9 5000 (by decide) rfl) dM_four_19 (fun H locs h => ?_)
  refine lv_aload_n hx hb dM_four_20 rfl (lv_at hl 1 rfl) ?_
  refine lv_dup hx hb dM_four_21 rfl ?_
  refine mgi C h m_taped (by decide) rfl (v := 9) rfl rfl dM_four_22 ?_
  refine lv_iconst (v := 1) hx hb dM_four_25 (by decide) ?_
  refine lv_iadd hx hb dM_four_26 ?_
  refine lv_topi (fun n_2 en_2 => ?_)
  have en_2 : n_2 = 10 := en_2.trans (by decide)
  subst en_2
  refine mpi C h m_taped (by decide) rfl rfl rfl (v := 10) rfl rfl dM_four_27 (fun H locs h => ?_)
  refine lv_iinc (v := 8) (lv' := [(2, .int (8)), (0, .ref o), (1, .int (a1))]) hx hb dM_four_30 hl (k := 0) rfl (by decide) (by decide) rfl (fun ls hl => ?_)
  refine lv_goto (tgt := 3) hx hb dM_four_33 (by decide) ?_
  refine lv_iload_n hx hb dM_four_3 rfl (lv_at hl 0 rfl) ?_
  refine lv_if_lt (tgt := 36) hx hb dM_four_4 (by decide) (fun c4 => absurd c4 (by decide)) (fun c4 => ?_)
  refine lv_aload_n hx hb dM_four_7 rfl (lv_at hl 1 rfl) ?_
  refine mga C h m_tape (by decide) (by decide) rfl dM_four_8 ?_
  refine lv_aload_n hx hb dM_four_11 rfl (lv_at hl 1 rfl) ?_
  refine mgi C h m_taped (by decide) rfl (v := 10) rfl rfl dM_four_12 ?_
  refine lv_iload_n hx hb dM_four_15 rfl (lv_at hl 2 rfl) ?_
  refine lv_iload_n hx hb dM_four_16 rfl (lv_at hl 0 rfl) ?_
  refine lv_ishr hx hb dM_four_17 ?_
  refine lv_i2b hx hb dM_four_18 rfl ?_
  refine msb C h m_tape (by decide) rfl (pk_in 10 5000 (by decide) rfl) dM_four_19 (fun H locs h => ?_)
  refine lv_aload_n hx hb dM_four_20 rfl (lv_at hl 1 rfl) ?_
  refine lv_dup hx hb dM_four_21 rfl ?_
  refine mgi C h m_taped (by decide) rfl (v := 10) rfl rfl dM_four_22 ?_
  refine lv_iconst (v := 1) hx hb dM_four_25 (by decide) ?_
  refine lv_iadd hx hb dM_four_26 ?_
  refine lv_topi (fun n_3 en_3 => ?_)
  have en_3 : n_3 = 11 := en_3.trans (by decide)
  subst en_3
  refine mpi C h m_taped (by decide) rfl rfl rfl (v := 11) rfl rfl dM_four_27 (fun H locs h => ?_)
  refine lv_iinc (v := 0) (lv' := [(2, .int (0)), (0, .ref o), (1, .int (a1))]) hx hb dM_four_30 hl (k := 0) rfl (by decide) (by decide) rfl (fun ls hl => ?_)
  refine lv_goto (tgt := 3) hx hb dM_four_33 (by decide) ?_
  refine lv_iload_n hx hb dM_four_3 rfl (lv_at hl 0 rfl) ?_
  refine lv_if_lt (tgt := 36) hx hb dM_four_4 (by decide) (fun c4 => absurd c4 (by decide)) (fun c4 => ?_)
  refine lv_aload_n hx hb dM_four_7 rfl (lv_at hl 1 rfl) ?_
  refine mga C h m_tape (by decide) (by decide) rfl dM_four_8 ?_
  refine lv_aload_n hx hb dM_four_11 rfl (lv_at hl 1 rfl) ?_
  refine mgi C h m_taped (by decide) rfl (v := 11) rfl rfl dM_four_12 ?_
  refine lv_iload_n hx hb dM_four_15 rfl (lv_at hl 2 rfl) ?_
  refine lv_iload_n hx hb dM_four_16 rfl (lv_at hl 0 rfl) ?_
  refine lv_ishr hx hb dM_four_17 ?_
  refine lv_i2b hx hb dM_four_18 rfl ?_
  refine msb C h m_tape (by decide) rfl (pk_in 11 5000 (by decide) rfl) dM_four_19 (fun H locs h => ?_)
  refine lv_aload_n hx hb dM_four_20 rfl (lv_at hl 1 rfl) ?_
  refine lv_dup hx hb dM_four_21 rfl ?_
  refine mgi C h m_taped (by decide) rfl (v := 11) rfl rfl dM_four_22 ?_
  refine lv_iconst (v := 1) hx hb dM_four_25 (by decide) ?_
  refine lv_iadd hx hb dM_four_26 ?_
  refine lv_topi (fun n_4 en_4 => ?_)
  have en_4 : n_4 = 12 := en_4.trans (by decide)
  subst en_4
  refine mpi C h m_taped (by decide) rfl rfl rfl (v := 12) rfl rfl dM_four_27 (fun H locs h => ?_)
  refine lv_iinc (v := -8) (lv' := [(2, .int (-8)), (0, .ref o), (1, .int (a1))]) hx hb dM_four_30 hl (k := 0) rfl (by decide) (by decide) rfl (fun ls hl => ?_)
  refine lv_goto (tgt := 3) hx hb dM_four_33 (by decide) ?_
  refine lv_iload_n hx hb dM_four_3 rfl (lv_at hl 0 rfl) ?_
  refine lv_if_lt (tgt := 36) hx hb dM_four_4 (by decide) (fun c4 => ?_) (fun c4 => absurd c4 (by decide))
  exact KV.ret C hr hlk (mput (mseti (mput (mseti (mput (mseti (mput (mseti M m_tape (8 : Int32).toNatClampNeg (vp_nar .byte (((a1 >>> (24 &&& 31))).toInt8.toInt32))) m_taped 9) m_tape (9 : Int32).toNatClampNeg (vp_nar .byte (((a1 >>> (16 &&& 31))).toInt8.toInt32))) m_taped 10) m_tape (10 : Int32).toNatClampNeg (vp_nar .byte (((a1 >>> (8 &&& 31))).toInt8.toInt32))) m_taped 11) m_tape (11 : Int32).toNatClampNeg (vp_nar .byte (((a1 >>> (0 &&& 31))).toInt8.toInt32))) m_taped 12) h rfl (by decide) (by decide) dM_four_36

set_option maxHeartbeats 4000000 in
set_option maxRecDepth 100000 in
/-- four(): taped grows -/
theorem t_four12 (l : Launch) (g : GG) (o : Nat) (ad : Nat → Nat) (M : MS) (a1 : Int32) (htap : M.1 m_taped = 12) : KV l yM_four cM_four 3 (rD 0 0 0) g (mW g o ad M) (mW g o ad) [.ref o, .int (a1)] (fun M' : MS => M'.1 m_taped = 16) := by
  refine KV.of (by decide) (Nat.le_of_ble_eq_true rfl) ?_
  intro p e s m below meth c A ls C hr hlk hnm h hl
  have hx := C.1.1
  have hb := C.1.2.1
  have hl : lv_has ls 3 [(0, .ref o), (1, .int (a1))] := hl
  refine lv_bipush (v := 24) hx hb dM_four_0 (by decide) ?_
  refine lv_istore_n (lv' := [(2, .int (24)), (0, .ref o), (1, .int (a1))]) hx hb dM_four_2 rfl hl (by decide) rfl (fun ls hl => ?_)
  refine lv_iload_n hx hb dM_four_3 rfl (lv_at hl 0 rfl) ?_
  refine lv_if_lt (tgt := 36) hx hb dM_four_4 (by decide) (fun c4 => absurd c4 (by decide)) (fun c4 => ?_)
  refine lv_aload_n hx hb dM_four_7 rfl (lv_at hl 1 rfl) ?_
  refine mga C h m_tape (by decide) (by decide) rfl dM_four_8 ?_
  refine lv_aload_n hx hb dM_four_11 rfl (lv_at hl 1 rfl) ?_
  refine mgi C h m_taped (by decide) rfl (v := 12) htap rfl dM_four_12 ?_
  refine lv_iload_n hx hb dM_four_15 rfl (lv_at hl 2 rfl) ?_
  refine lv_iload_n hx hb dM_four_16 rfl (lv_at hl 0 rfl) ?_
  refine lv_ishr hx hb dM_four_17 ?_
  refine lv_i2b hx hb dM_four_18 rfl ?_
  refine msb C h m_tape (by decide) rfl (pk_in 12 5000 (by decide) rfl) dM_four_19 (fun H locs h => ?_)
  refine lv_aload_n hx hb dM_four_20 rfl (lv_at hl 1 rfl) ?_
  refine lv_dup hx hb dM_four_21 rfl ?_
  refine mgi C h m_taped (by decide) rfl (v := 12) htap rfl dM_four_22 ?_
  refine lv_iconst (v := 1) hx hb dM_four_25 (by decide) ?_
  refine lv_iadd hx hb dM_four_26 ?_
  refine lv_topi (fun n_1 en_1 => ?_)
  have en_1 : n_1 = 13 := en_1.trans (by decide)
  subst en_1
  refine mpi C h m_taped (by decide) rfl rfl rfl (v := 13) rfl rfl dM_four_27 (fun H locs h => ?_)
  refine lv_iinc (v := 16) (lv' := [(2, .int (16)), (0, .ref o), (1, .int (a1))]) hx hb dM_four_30 hl (k := 0) rfl (by decide) (by decide) rfl (fun ls hl => ?_)
  refine lv_goto (tgt := 3) hx hb dM_four_33 (by decide) ?_
  refine lv_iload_n hx hb dM_four_3 rfl (lv_at hl 0 rfl) ?_
  refine lv_if_lt (tgt := 36) hx hb dM_four_4 (by decide) (fun c4 => absurd c4 (by decide)) (fun c4 => ?_)
  refine lv_aload_n hx hb dM_four_7 rfl (lv_at hl 1 rfl) ?_
  refine mga C h m_tape (by decide) (by decide) rfl dM_four_8 ?_
  refine lv_aload_n hx hb dM_four_11 rfl (lv_at hl 1 rfl) ?_
  refine mgi C h m_taped (by decide) rfl (v := 13) rfl rfl dM_four_12 ?_
  refine lv_iload_n hx hb dM_four_15 rfl (lv_at hl 2 rfl) ?_
  refine lv_iload_n hx hb dM_four_16 rfl (lv_at hl 0 rfl) ?_
  refine lv_ishr hx hb dM_four_17 ?_
  refine lv_i2b hx hb dM_four_18 rfl ?_
  refine msb C h m_tape (by decide) rfl (pk_in 13 5000 (by decide) rfl) dM_four_19 (fun H locs h => ?_)
  refine lv_aload_n hx hb dM_four_20 rfl (lv_at hl 1 rfl) ?_
  refine lv_dup hx hb dM_four_21 rfl ?_
  refine mgi C h m_taped (by decide) rfl (v := 13) rfl rfl dM_four_22 ?_
  refine lv_iconst (v := 1) hx hb dM_four_25 (by decide) ?_
  refine lv_iadd hx hb dM_four_26 ?_
  refine lv_topi (fun n_2 en_2 => ?_)
  have en_2 : n_2 = 14 := en_2.trans (by decide)
  subst en_2
  refine mpi C h m_taped (by decide) rfl rfl rfl (v := 14) rfl rfl dM_four_27 (fun H locs h => ?_)
  refine lv_iinc (v := 8) (lv' := [(2, .int (8)), (0, .ref o), (1, .int (a1))]) hx hb dM_four_30 hl (k := 0) rfl (by decide) (by decide) rfl (fun ls hl => ?_)
  refine lv_goto (tgt := 3) hx hb dM_four_33 (by decide) ?_
  refine lv_iload_n hx hb dM_four_3 rfl (lv_at hl 0 rfl) ?_
  refine lv_if_lt (tgt := 36) hx hb dM_four_4 (by decide) (fun c4 => absurd c4 (by decide)) (fun c4 => ?_)
  refine lv_aload_n hx hb dM_four_7 rfl (lv_at hl 1 rfl) ?_
  refine mga C h m_tape (by decide) (by decide) rfl dM_four_8 ?_
  refine lv_aload_n hx hb dM_four_11 rfl (lv_at hl 1 rfl) ?_
  refine mgi C h m_taped (by decide) rfl (v := 14) rfl rfl dM_four_12 ?_
  refine lv_iload_n hx hb dM_four_15 rfl (lv_at hl 2 rfl) ?_
  refine lv_iload_n hx hb dM_four_16 rfl (lv_at hl 0 rfl) ?_
  refine lv_ishr hx hb dM_four_17 ?_
  refine lv_i2b hx hb dM_four_18 rfl ?_
  refine msb C h m_tape (by decide) rfl (pk_in 14 5000 (by decide) rfl) dM_four_19 (fun H locs h => ?_)
  refine lv_aload_n hx hb dM_four_20 rfl (lv_at hl 1 rfl) ?_
  refine lv_dup hx hb dM_four_21 rfl ?_
  refine mgi C h m_taped (by decide) rfl (v := 14) rfl rfl dM_four_22 ?_
  refine lv_iconst (v := 1) hx hb dM_four_25 (by decide) ?_
  refine lv_iadd hx hb dM_four_26 ?_
  refine lv_topi (fun n_3 en_3 => ?_)
  have en_3 : n_3 = 15 := en_3.trans (by decide)
  subst en_3
  refine mpi C h m_taped (by decide) rfl rfl rfl (v := 15) rfl rfl dM_four_27 (fun H locs h => ?_)
  refine lv_iinc (v := 0) (lv' := [(2, .int (0)), (0, .ref o), (1, .int (a1))]) hx hb dM_four_30 hl (k := 0) rfl (by decide) (by decide) rfl (fun ls hl => ?_)
  refine lv_goto (tgt := 3) hx hb dM_four_33 (by decide) ?_
  refine lv_iload_n hx hb dM_four_3 rfl (lv_at hl 0 rfl) ?_
  refine lv_if_lt (tgt := 36) hx hb dM_four_4 (by decide) (fun c4 => absurd c4 (by decide)) (fun c4 => ?_)
  refine lv_aload_n hx hb dM_four_7 rfl (lv_at hl 1 rfl) ?_
  refine mga C h m_tape (by decide) (by decide) rfl dM_four_8 ?_
  refine lv_aload_n hx hb dM_four_11 rfl (lv_at hl 1 rfl) ?_
  refine mgi C h m_taped (by decide) rfl (v := 15) rfl rfl dM_four_12 ?_
  refine lv_iload_n hx hb dM_four_15 rfl (lv_at hl 2 rfl) ?_
  refine lv_iload_n hx hb dM_four_16 rfl (lv_at hl 0 rfl) ?_
  refine lv_ishr hx hb dM_four_17 ?_
  refine lv_i2b hx hb dM_four_18 rfl ?_
  refine msb C h m_tape (by decide) rfl (pk_in 15 5000 (by decide) rfl) dM_four_19 (fun H locs h => ?_)
  refine lv_aload_n hx hb dM_four_20 rfl (lv_at hl 1 rfl) ?_
  refine lv_dup hx hb dM_four_21 rfl ?_
  refine mgi C h m_taped (by decide) rfl (v := 15) rfl rfl dM_four_22 ?_
  refine lv_iconst (v := 1) hx hb dM_four_25 (by decide) ?_
  refine lv_iadd hx hb dM_four_26 ?_
  refine lv_topi (fun n_4 en_4 => ?_)
  have en_4 : n_4 = 16 := en_4.trans (by decide)
  subst en_4
  refine mpi C h m_taped (by decide) rfl rfl rfl (v := 16) rfl rfl dM_four_27 (fun H locs h => ?_)
  refine lv_iinc (v := -8) (lv' := [(2, .int (-8)), (0, .ref o), (1, .int (a1))]) hx hb dM_four_30 hl (k := 0) rfl (by decide) (by decide) rfl (fun ls hl => ?_)
  refine lv_goto (tgt := 3) hx hb dM_four_33 (by decide) ?_
  refine lv_iload_n hx hb dM_four_3 rfl (lv_at hl 0 rfl) ?_
  refine lv_if_lt (tgt := 36) hx hb dM_four_4 (by decide) (fun c4 => ?_) (fun c4 => absurd c4 (by decide))
  exact KV.ret C hr hlk (mput (mseti (mput (mseti (mput (mseti (mput (mseti M m_tape (12 : Int32).toNatClampNeg (vp_nar .byte (((a1 >>> (24 &&& 31))).toInt8.toInt32))) m_taped 13) m_tape (13 : Int32).toNatClampNeg (vp_nar .byte (((a1 >>> (16 &&& 31))).toInt8.toInt32))) m_taped 14) m_tape (14 : Int32).toNatClampNeg (vp_nar .byte (((a1 >>> (8 &&& 31))).toInt8.toInt32))) m_taped 15) m_tape (15 : Int32).toNatClampNeg (vp_nar .byte (((a1 >>> (0 &&& 31))).toInt8.toInt32))) m_taped 16) h rfl (by decide) (by decide) dM_four_36

set_option maxHeartbeats 4000000 in
set_option maxRecDepth 100000 in
/-- four(): taped grows -/
theorem t_four16 (l : Launch) (g : GG) (o : Nat) (ad : Nat → Nat) (M : MS) (a1 : Int32) (htap : M.1 m_taped = 16) : KV l yM_four cM_four 3 (rD 0 0 0) g (mW g o ad M) (mW g o ad) [.ref o, .int (a1)] (fun M' : MS => M'.1 m_taped = 20) := by
  refine KV.of (by decide) (Nat.le_of_ble_eq_true rfl) ?_
  intro p e s m below meth c A ls C hr hlk hnm h hl
  have hx := C.1.1
  have hb := C.1.2.1
  have hl : lv_has ls 3 [(0, .ref o), (1, .int (a1))] := hl
  refine lv_bipush (v := 24) hx hb dM_four_0 (by decide) ?_
  refine lv_istore_n (lv' := [(2, .int (24)), (0, .ref o), (1, .int (a1))]) hx hb dM_four_2 rfl hl (by decide) rfl (fun ls hl => ?_)
  refine lv_iload_n hx hb dM_four_3 rfl (lv_at hl 0 rfl) ?_
  refine lv_if_lt (tgt := 36) hx hb dM_four_4 (by decide) (fun c4 => absurd c4 (by decide)) (fun c4 => ?_)
  refine lv_aload_n hx hb dM_four_7 rfl (lv_at hl 1 rfl) ?_
  refine mga C h m_tape (by decide) (by decide) rfl dM_four_8 ?_
  refine lv_aload_n hx hb dM_four_11 rfl (lv_at hl 1 rfl) ?_
  refine mgi C h m_taped (by decide) rfl (v := 16) htap rfl dM_four_12 ?_
  refine lv_iload_n hx hb dM_four_15 rfl (lv_at hl 2 rfl) ?_
  refine lv_iload_n hx hb dM_four_16 rfl (lv_at hl 0 rfl) ?_
  refine lv_ishr hx hb dM_four_17 ?_
  refine lv_i2b hx hb dM_four_18 rfl ?_
  refine msb C h m_tape (by decide) rfl (pk_in 16 5000 (by decide) rfl) dM_four_19 (fun H locs h => ?_)
  refine lv_aload_n hx hb dM_four_20 rfl (lv_at hl 1 rfl) ?_
  refine lv_dup hx hb dM_four_21 rfl ?_
  refine mgi C h m_taped (by decide) rfl (v := 16) htap rfl dM_four_22 ?_
  refine lv_iconst (v := 1) hx hb dM_four_25 (by decide) ?_
  refine lv_iadd hx hb dM_four_26 ?_
  refine lv_topi (fun n_1 en_1 => ?_)
  have en_1 : n_1 = 17 := en_1.trans (by decide)
  subst en_1
  refine mpi C h m_taped (by decide) rfl rfl rfl (v := 17) rfl rfl dM_four_27 (fun H locs h => ?_)
  refine lv_iinc (v := 16) (lv' := [(2, .int (16)), (0, .ref o), (1, .int (a1))]) hx hb dM_four_30 hl (k := 0) rfl (by decide) (by decide) rfl (fun ls hl => ?_)
  refine lv_goto (tgt := 3) hx hb dM_four_33 (by decide) ?_
  refine lv_iload_n hx hb dM_four_3 rfl (lv_at hl 0 rfl) ?_
  refine lv_if_lt (tgt := 36) hx hb dM_four_4 (by decide) (fun c4 => absurd c4 (by decide)) (fun c4 => ?_)
  refine lv_aload_n hx hb dM_four_7 rfl (lv_at hl 1 rfl) ?_
  refine mga C h m_tape (by decide) (by decide) rfl dM_four_8 ?_
  refine lv_aload_n hx hb dM_four_11 rfl (lv_at hl 1 rfl) ?_
  refine mgi C h m_taped (by decide) rfl (v := 17) rfl rfl dM_four_12 ?_
  refine lv_iload_n hx hb dM_four_15 rfl (lv_at hl 2 rfl) ?_
  refine lv_iload_n hx hb dM_four_16 rfl (lv_at hl 0 rfl) ?_
  refine lv_ishr hx hb dM_four_17 ?_
  refine lv_i2b hx hb dM_four_18 rfl ?_
  refine msb C h m_tape (by decide) rfl (pk_in 17 5000 (by decide) rfl) dM_four_19 (fun H locs h => ?_)
  refine lv_aload_n hx hb dM_four_20 rfl (lv_at hl 1 rfl) ?_
  refine lv_dup hx hb dM_four_21 rfl ?_
  refine mgi C h m_taped (by decide) rfl (v := 17) rfl rfl dM_four_22 ?_
  refine lv_iconst (v := 1) hx hb dM_four_25 (by decide) ?_
  refine lv_iadd hx hb dM_four_26 ?_
  refine lv_topi (fun n_2 en_2 => ?_)
  have en_2 : n_2 = 18 := en_2.trans (by decide)
  subst en_2
  refine mpi C h m_taped (by decide) rfl rfl rfl (v := 18) rfl rfl dM_four_27 (fun H locs h => ?_)
  refine lv_iinc (v := 8) (lv' := [(2, .int (8)), (0, .ref o), (1, .int (a1))]) hx hb dM_four_30 hl (k := 0) rfl (by decide) (by decide) rfl (fun ls hl => ?_)
  refine lv_goto (tgt := 3) hx hb dM_four_33 (by decide) ?_
  refine lv_iload_n hx hb dM_four_3 rfl (lv_at hl 0 rfl) ?_
  refine lv_if_lt (tgt := 36) hx hb dM_four_4 (by decide) (fun c4 => absurd c4 (by decide)) (fun c4 => ?_)
  refine lv_aload_n hx hb dM_four_7 rfl (lv_at hl 1 rfl) ?_
  refine mga C h m_tape (by decide) (by decide) rfl dM_four_8 ?_
  refine lv_aload_n hx hb dM_four_11 rfl (lv_at hl 1 rfl) ?_
  refine mgi C h m_taped (by decide) rfl (v := 18) rfl rfl dM_four_12 ?_
  refine lv_iload_n hx hb dM_four_15 rfl (lv_at hl 2 rfl) ?_
  refine lv_iload_n hx hb dM_four_16 rfl (lv_at hl 0 rfl) ?_
  refine lv_ishr hx hb dM_four_17 ?_
  refine lv_i2b hx hb dM_four_18 rfl ?_
  refine msb C h m_tape (by decide) rfl (pk_in 18 5000 (by decide) rfl) dM_four_19 (fun H locs h => ?_)
  refine lv_aload_n hx hb dM_four_20 rfl (lv_at hl 1 rfl) ?_
  refine lv_dup hx hb dM_four_21 rfl ?_
  refine mgi C h m_taped (by decide) rfl (v := 18) rfl rfl dM_four_22 ?_
  refine lv_iconst (v := 1) hx hb dM_four_25 (by decide) ?_
  refine lv_iadd hx hb dM_four_26 ?_
  refine lv_topi (fun n_3 en_3 => ?_)
  have en_3 : n_3 = 19 := en_3.trans (by decide)
  subst en_3
  refine mpi C h m_taped (by decide) rfl rfl rfl (v := 19) rfl rfl dM_four_27 (fun H locs h => ?_)
  refine lv_iinc (v := 0) (lv' := [(2, .int (0)), (0, .ref o), (1, .int (a1))]) hx hb dM_four_30 hl (k := 0) rfl (by decide) (by decide) rfl (fun ls hl => ?_)
  refine lv_goto (tgt := 3) hx hb dM_four_33 (by decide) ?_
  refine lv_iload_n hx hb dM_four_3 rfl (lv_at hl 0 rfl) ?_
  refine lv_if_lt (tgt := 36) hx hb dM_four_4 (by decide) (fun c4 => absurd c4 (by decide)) (fun c4 => ?_)
  refine lv_aload_n hx hb dM_four_7 rfl (lv_at hl 1 rfl) ?_
  refine mga C h m_tape (by decide) (by decide) rfl dM_four_8 ?_
  refine lv_aload_n hx hb dM_four_11 rfl (lv_at hl 1 rfl) ?_
  refine mgi C h m_taped (by decide) rfl (v := 19) rfl rfl dM_four_12 ?_
  refine lv_iload_n hx hb dM_four_15 rfl (lv_at hl 2 rfl) ?_
  refine lv_iload_n hx hb dM_four_16 rfl (lv_at hl 0 rfl) ?_
  refine lv_ishr hx hb dM_four_17 ?_
  refine lv_i2b hx hb dM_four_18 rfl ?_
  refine msb C h m_tape (by decide) rfl (pk_in 19 5000 (by decide) rfl) dM_four_19 (fun H locs h => ?_)
  refine lv_aload_n hx hb dM_four_20 rfl (lv_at hl 1 rfl) ?_
  refine lv_dup hx hb dM_four_21 rfl ?_
  refine mgi C h m_taped (by decide) rfl (v := 19) rfl rfl dM_four_22 ?_
  refine lv_iconst (v := 1) hx hb dM_four_25 (by decide) ?_
  refine lv_iadd hx hb dM_four_26 ?_
  refine lv_topi (fun n_4 en_4 => ?_)
  have en_4 : n_4 = 20 := en_4.trans (by decide)
  subst en_4
  refine mpi C h m_taped (by decide) rfl rfl rfl (v := 20) rfl rfl dM_four_27 (fun H locs h => ?_)
  refine lv_iinc (v := -8) (lv' := [(2, .int (-8)), (0, .ref o), (1, .int (a1))]) hx hb dM_four_30 hl (k := 0) rfl (by decide) (by decide) rfl (fun ls hl => ?_)
  refine lv_goto (tgt := 3) hx hb dM_four_33 (by decide) ?_
  refine lv_iload_n hx hb dM_four_3 rfl (lv_at hl 0 rfl) ?_
  refine lv_if_lt (tgt := 36) hx hb dM_four_4 (by decide) (fun c4 => ?_) (fun c4 => absurd c4 (by decide))
  exact KV.ret C hr hlk (mput (mseti (mput (mseti (mput (mseti (mput (mseti M m_tape (16 : Int32).toNatClampNeg (vp_nar .byte (((a1 >>> (24 &&& 31))).toInt8.toInt32))) m_taped 17) m_tape (17 : Int32).toNatClampNeg (vp_nar .byte (((a1 >>> (16 &&& 31))).toInt8.toInt32))) m_taped 18) m_tape (18 : Int32).toNatClampNeg (vp_nar .byte (((a1 >>> (8 &&& 31))).toInt8.toInt32))) m_taped 19) m_tape (19 : Int32).toNatClampNeg (vp_nar .byte (((a1 >>> (0 &&& 31))).toInt8.toInt32))) m_taped 20) h rfl (by decide) (by decide) dM_four_36

set_option maxHeartbeats 4000000 in
set_option maxRecDepth 100000 in
/-- feed() on a fresh object -/
theorem t_feed (l : Launch) (g : GG) (o : Nat) (ad : Nat → Nat) (M : MS) (a1 : Int32) (a2 : Int32) (a3 : Int32) (a4 : Int32) (a5 : Int32) (htap : M.1 m_taped = 0) : KI l yM_feed cM_feed 6 (some .boolean) (rD 1 0 0) g (mW g o ad M) (mW g o ad) [.ref o, .int (a1), .int (a2), .int (a3), .int (a4), .int (a5)] (fun (r : Int32) (M' : MS) => r = 1) := by
  refine KI.of (by decide) (Nat.le_of_ble_eq_true rfl) ?_
  intro p e s m below meth c A ls C hr hlk hnm h hl
  have hx := C.1.1
  have hb := C.1.2.1
  have hl : lv_has ls 6 [(0, .ref o), (1, .int (a1)), (2, .int (a2)), (3, .int (a3)), (4, .int (a4)), (5, .int (a5))] := hl
  refine lv_aload_n hx hb dM_feed_0 rfl (lv_at hl 0 rfl) ?_
  refine mgi C h m_taped (by decide) rfl (v := 0) htap rfl dM_feed_1 ?_
  refine lv_sipush (v := 4980) hx hb dM_feed_4 (by decide) ?_
  refine lv_icmp_le (tgt := 12) hx hb dM_feed_7 (by decide) (fun c7 => ?_) (fun c7 => absurd c7 (by decide))
  refine lv_aload_n hx hb dM_feed_12 rfl (lv_at hl 0 rfl) ?_
  refine lv_iload_n hx hb dM_feed_13 rfl (lv_at hl 1 rfl) ?_
  refine KV.callV (As := [.int (a1)]) (q0 := 0) (ci := 0) C h (t_four0 l g o ad M a1 htap) vM_feed_405 ⟨by decide, by decide⟩ rfl rfl hl.1 rfl (by decide) dM_feed_14 ⟨by decide, by decide⟩ (fun u_2 H locs hp h => ?_)
  have hq4 := hp
  refine lv_aload_n hx hb dM_feed_17 rfl (lv_at hl 0 rfl) ?_
  refine lv_iload_n hx hb dM_feed_18 rfl (lv_at hl 2 rfl) ?_
  refine KV.callV (As := [.int (a2)]) (q0 := 0) (ci := 0) C h (t_four4 l g o ad u_2 a2 hq4) vM_feed_405 ⟨by decide, by decide⟩ rfl rfl hl.1 rfl (by decide) dM_feed_19 ⟨by decide, by decide⟩ (fun u_4 H locs hp h => ?_)
  have hq8 := hp
  refine lv_aload_n hx hb dM_feed_22 rfl (lv_at hl 0 rfl) ?_
  refine lv_iload_n hx hb dM_feed_23 rfl (lv_at hl 3 rfl) ?_
  refine KV.callV (As := [.int (a3)]) (q0 := 0) (ci := 0) C h (t_four8 l g o ad u_4 a3 hq8) vM_feed_405 ⟨by decide, by decide⟩ rfl rfl hl.1 rfl (by decide) dM_feed_24 ⟨by decide, by decide⟩ (fun u_6 H locs hp h => ?_)
  have hq12 := hp
  refine lv_aload_n hx hb dM_feed_27 rfl (lv_at hl 0 rfl) ?_
  refine lv_iload hx hb dM_feed_28 (lv_at hl 4 rfl) ?_
  refine KV.callV (As := [.int (a4)]) (q0 := 0) (ci := 0) C h (t_four12 l g o ad u_6 a4 hq12) vM_feed_405 ⟨by decide, by decide⟩ rfl rfl hl.1 rfl (by decide) dM_feed_30 ⟨by decide, by decide⟩ (fun u_8 H locs hp h => ?_)
  have hq16 := hp
  refine lv_aload_n hx hb dM_feed_33 rfl (lv_at hl 0 rfl) ?_
  refine lv_iload hx hb dM_feed_34 (lv_at hl 5 rfl) ?_
  refine KV.callV (As := [.int (a5)]) (q0 := 0) (ci := 0) C h (t_four16 l g o ad u_8 a5 hq16) vM_feed_405 ⟨by decide, by decide⟩ rfl rfl hl.1 rfl (by decide) dM_feed_36 ⟨by decide, by decide⟩ (fun u_10 H locs hp h => ?_)
  have hq20 := hp
  refine lv_iconst (v := 1) hx hb dM_feed_39 (by decide) ?_
  exact KI.ret C hr hlk u_10 h rfl rfl (by decide) (by decide) dM_feed_40

def s_toText0 (M : MS) : MS := mput (mput M m_length 0) m_taped 0
set_option maxHeartbeats 4000000 in
set_option maxRecDepth 100000 in
/-- toText(0) -/
theorem t_toText0 (l : Launch) (g : GG) (o : Nat) (ad : Nat → Nat) (M : MS)  : KV l yM_toText cM_toText 3 (rD 0 0 0) g (mW g o ad M) (mW g o ad) [.ref o, .int (0)] (fun M' : MS => M' = s_toText0 M) := by
  refine KV.of (by decide) (Nat.le_of_ble_eq_true rfl) ?_
  intro p e s m below meth c A ls C hr hlk hnm h hl
  have hx := C.1.1
  have hb := C.1.2.1
  have hl : lv_has ls 3 [(0, .ref o), (1, .int (0))] := hl
  refine lv_iconst (v := 0) hx hb dM_toText_0 (by decide) ?_
  refine lv_istore_n (lv' := [(2, .int (0)), (0, .ref o), (1, .int (0))]) hx hb dM_toText_1 rfl hl (by decide) rfl (fun ls hl => ?_)
  refine lv_iload_n hx hb dM_toText_2 rfl (lv_at hl 0 rfl) ?_
  refine lv_iload_n hx hb dM_toText_3 rfl (lv_at hl 2 rfl) ?_
  refine lv_icmp_ge (tgt := 25) hx hb dM_toText_4 (by decide) (fun c4 => ?_) (fun c4 => absurd c4 (by decide))
  refine lv_aload_n hx hb dM_toText_25 rfl (lv_at hl 1 rfl) ?_
  refine lv_iload_n hx hb dM_toText_26 rfl (lv_at hl 2 rfl) ?_
  refine mpi C h m_length (by decide) rfl rfl rfl (v := 0) rfl rfl dM_toText_27 (fun H locs h => ?_)
  refine lv_aload_n hx hb dM_toText_30 rfl (lv_at hl 1 rfl) ?_
  refine lv_iconst (v := 0) hx hb dM_toText_31 (by decide) ?_
  refine mpi C h m_taped (by decide) rfl rfl rfl (v := 0) rfl rfl dM_toText_32 (fun H locs h => ?_)
  exact KV.ret C hr hlk (mput (mput M m_length 0) m_taped 0) h rfl (by decide) (by decide) dM_toText_35

set_option maxHeartbeats 4000000 in
set_option maxRecDepth 100000 in
/-- breaks() while there is no fault -/
theorem t_breaks0 (l : Launch) (g : GG) (o : Nat) (ad : Nat → Nat) (M : MS) (a1 : Int32) (a2 : Int32) (hf : M.1 m_fault = 0) : KV l yM_breaks cM_breaks 3 (rD 0 0 0) g (mW g o ad M) (mW g o ad) [.ref o, .int (a1), .int (a2)] (fun M' : MS => M' = mput (mput M m_fault a1) m_faultAt a2) := by
  refine KV.of (by decide) (Nat.le_of_ble_eq_true rfl) ?_
  intro p e s m below meth c A ls C hr hlk hnm h hl
  have hx := C.1.1
  have hb := C.1.2.1
  have hl : lv_has ls 3 [(0, .ref o), (1, .int (a1)), (2, .int (a2))] := hl
  refine lv_aload_n hx hb dM_breaks_0 rfl (lv_at hl 0 rfl) ?_
  refine mgi C h m_fault (by decide) rfl (v := 0) hf rfl dM_breaks_1 ?_
  refine lv_if_ne (tgt := 17) hx hb dM_breaks_4 (by decide) (fun c4 => absurd c4 (by decide)) (fun c4 => ?_)
  refine lv_aload_n hx hb dM_breaks_7 rfl (lv_at hl 0 rfl) ?_
  refine lv_iload_n hx hb dM_breaks_8 rfl (lv_at hl 1 rfl) ?_
  refine mpi C h m_fault (by decide) rfl rfl rfl (v := a1) rfl rfl dM_breaks_9 (fun H locs h => ?_)
  refine lv_aload_n hx hb dM_breaks_12 rfl (lv_at hl 0 rfl) ?_
  refine lv_iload_n hx hb dM_breaks_13 rfl (lv_at hl 2 rfl) ?_
  refine mpi C h m_faultAt (by decide) rfl rfl rfl (v := a2) rfl rfl dM_breaks_14 (fun H locs h => ?_)
  exact KV.ret C hr hlk (mput (mput M m_fault a1) m_faultAt a2) h rfl (by decide) (by decide) dM_breaks_17

def s_wrong0 (M : MS) : MS := mput (mput M m_fault 1) m_faultAt (M.2.1 m_tp (0 : Int32).toNatClampNeg)
set_option maxHeartbeats 4000000 in
set_option maxRecDepth 100000 in
/-- wrong() at the first token -/
theorem t_wrong0 (l : Launch) (g : GG) (o : Nat) (ad : Nat → Nat) (M : MS) (hf : M.1 m_fault = 0) (hat : M.1 m_at = 0) : KV l yM_wrong cM_wrong 1 (rD 1 0 0) g (mW g o ad M) (mW g o ad) [.ref o] (fun M' : MS => M' = s_wrong0 M) := by
  refine KV.of (by decide) (Nat.le_of_ble_eq_true rfl) ?_
  intro p e s m below meth c A ls C hr hlk hnm h hl
  have hx := C.1.1
  have hb := C.1.2.1
  have hl : lv_has ls 1 [(0, .ref o)] := hl
  refine lv_aload_n hx hb dM_wrong_0 rfl (lv_at hl 0 rfl) ?_
  refine lv_iconst (v := 1) hx hb dM_wrong_1 (by decide) ?_
  refine lv_aload_n hx hb dM_wrong_2 rfl (lv_at hl 0 rfl) ?_
  refine mga C h m_tp (by decide) (by decide) rfl dM_wrong_3 ?_
  refine lv_aload_n hx hb dM_wrong_6 rfl (lv_at hl 0 rfl) ?_
  refine mgi C h m_at (by decide) rfl (v := 0) hat rfl dM_wrong_7 ?_
  refine mai C h m_tp (by decide) rfl (pk_in 0 1202 (by decide) rfl) (v := M.2.1 m_tp (0 : Int32).toNatClampNeg) rfl dM_wrong_10 ?_
  refine KV.callV (As := [.int (1), .int (M.2.1 m_tp (0 : Int32).toNatClampNeg)]) (q0 := 0) (ci := 0) C h (t_breaks0 l g o ad M 1 (M.2.1 m_tp (0 : Int32).toNatClampNeg) hf) vM_wrong_453 ⟨by decide, by decide⟩ rfl rfl hl.1 rfl (by decide) dM_wrong_11 ⟨by decide, by decide⟩ (fun u_2 H locs hp h => ?_)
  subst hp
  exact KV.ret C hr hlk (mput (mput M m_fault 1) m_faultAt (M.2.1 m_tp (0 : Int32).toNatClampNeg)) h rfl (by decide) (by decide) dM_wrong_14

def s_token0 (M : MS) (a1 a2 : Int32) (v3 : Int64) : MS := mput (msetj (mseti (mseti M m_tk (0 : Int32).toNatClampNeg a1) m_tp (0 : Int32).toNatClampNeg a2) m_tv (0 : Int32).toNatClampNeg v3) m_many 1
set_option maxHeartbeats 4000000 in
set_option maxRecDepth 100000 in
/-- the first token -/
theorem t_token0 (l : Launch) (g : GG) (o : Nat) (ad : Nat → Nat) (M : MS) (a1 : Int32) (a2 : Int32) (v3 : Int64) (hm : M.1 m_many = 0) : KV l yM_token cM_token 5 (rD 0 0 0) g (mW g o ad M) (mW g o ad) [.ref o, .int (a1), .int (a2), .long (v3)] (fun M' : MS => M' = s_token0 M a1 a2 v3) := by
  refine KV.of (by decide) (Nat.le_of_ble_eq_true rfl) ?_
  intro p e s m below meth c A ls C hr hlk hnm h hl
  have hx := C.1.1
  have hb := C.1.2.1
  have hl : lv_has ls 5 [(0, .ref o), (1, .int (a1)), (2, .int (a2)), (3, .long (v3))] := hl
  refine lv_aload_n hx hb dM_token_0 rfl (lv_at hl 0 rfl) ?_
  refine mga C h m_tk (by decide) (by decide) rfl dM_token_1 ?_
  refine lv_aload_n hx hb dM_token_4 rfl (lv_at hl 0 rfl) ?_
  refine mgi C h m_many (by decide) rfl (v := 0) hm rfl dM_token_5 ?_
  refine lv_iload_n hx hb dM_token_8 rfl (lv_at hl 1 rfl) ?_
  refine msi C h m_tk (by decide) rfl (pk_in 0 1202 (by decide) rfl) dM_token_9 (fun H locs h => ?_)
  refine lv_aload_n hx hb dM_token_10 rfl (lv_at hl 0 rfl) ?_
  refine mga C h m_tp (by decide) (by decide) rfl dM_token_11 ?_
  refine lv_aload_n hx hb dM_token_14 rfl (lv_at hl 0 rfl) ?_
  refine mgi C h m_many (by decide) rfl (v := 0) hm rfl dM_token_15 ?_
  refine lv_iload_n hx hb dM_token_18 rfl (lv_at hl 2 rfl) ?_
  refine msi C h m_tp (by decide) rfl (pk_in 0 1202 (by decide) rfl) dM_token_19 (fun H locs h => ?_)
  refine lv_aload_n hx hb dM_token_20 rfl (lv_at hl 0 rfl) ?_
  refine mga C h m_tv (by decide) (by decide) rfl dM_token_21 ?_
  refine lv_aload_n hx hb dM_token_24 rfl (lv_at hl 0 rfl) ?_
  refine mgi C h m_many (by decide) rfl (v := 0) hm rfl dM_token_25 ?_
  refine lv_lload_n hx hb dM_token_28 rfl (lv_at hl 3 rfl) ?_
  refine msj C h m_tv (by decide) rfl (pk_in 0 1202 (by decide) rfl) dM_token_29 (fun H locs h => ?_)
  refine lv_aload_n hx hb dM_token_30 rfl (lv_at hl 0 rfl) ?_
  refine lv_dup hx hb dM_token_31 rfl ?_
  refine mgi C h m_many (by decide) rfl (v := 0) hm rfl dM_token_32 ?_
  refine lv_iconst (v := 1) hx hb dM_token_35 (by decide) ?_
  refine lv_iadd hx hb dM_token_36 ?_
  refine lv_topi (fun n_1 en_1 => ?_)
  have en_1 : n_1 = 1 := en_1.trans (by decide)
  subst en_1
  refine mpi C h m_many (by decide) rfl rfl rfl (v := 1) rfl rfl dM_token_37 (fun H locs h => ?_)
  exact KV.ret C hr hlk (mput (msetj (mseti (mseti M m_tk (0 : Int32).toNatClampNeg a1) m_tp (0 : Int32).toNatClampNeg a2) m_tv (0 : Int32).toNatClampNeg v3) m_many 1) h rfl (by decide) (by decide) dM_token_40

set_option maxHeartbeats 4000000 in
set_option maxRecDepth 100000 in
/-- behindBlanks(0) of an empty text -/
theorem t_behindBlanks0 (l : Launch) (g : GG) (o : Nat) (ad : Nat → Nat) (M : MS) (hlen : M.1 m_length = 0) : KI l yM_behindBlanks cM_behindBlanks 5 (some .int) (rD 0 0 0) g (mW g o ad M) (mW g o ad) [.ref o, .int (0)] (fun (r : Int32) (M' : MS) => M' = M ∧ r = 0) := by
  refine KI.of (by decide) (Nat.le_of_ble_eq_true rfl) ?_
  intro p e s m below meth c A ls C hr hlk hnm h hl
  have hx := C.1.1
  have hb := C.1.2.1
  have hl : lv_has ls 5 [(0, .ref o), (1, .int (0))] := hl
  refine lv_iload_n hx hb dM_behindBlanks_0 rfl (lv_at hl 1 rfl) ?_
  refine lv_istore_n (lv' := [(2, .int (0)), (0, .ref o), (1, .int (0))]) hx hb dM_behindBlanks_1 rfl hl (by decide) rfl (fun ls hl => ?_)
  refine lv_iconst (v := 1) hx hb dM_behindBlanks_2 (by decide) ?_
  refine lv_istore_n (lv' := [(3, .int (1)), (2, .int (0)), (0, .ref o), (1, .int (0))]) hx hb dM_behindBlanks_3 rfl hl (by decide) rfl (fun ls hl => ?_)
  refine lv_iload_n hx hb dM_behindBlanks_4 rfl (lv_at hl 0 rfl) ?_
  refine lv_if_eq (tgt := 93) hx hb dM_behindBlanks_5 (by decide) (fun c5 => absurd c5 (by decide)) (fun c5 => ?_)
  refine lv_iload_n hx hb dM_behindBlanks_8 rfl (lv_at hl 1 rfl) ?_
  refine lv_aload_n hx hb dM_behindBlanks_9 rfl (lv_at hl 2 rfl) ?_
  refine mgi C h m_length (by decide) rfl (v := 0) hlen rfl dM_behindBlanks_10 ?_
  refine lv_icmp_ge (tgt := 93) hx hb dM_behindBlanks_13 (by decide) (fun c13 => ?_) (fun c13 => absurd c13 (by decide))
  refine lv_iload_n hx hb dM_behindBlanks_93 rfl (lv_at hl 1 rfl) ?_
  exact KI.ret C hr hlk M h rfl ⟨rfl, rfl⟩ (by decide) (by decide) dM_behindBlanks_94

def s_cut0 (M : MS) : MS := s_token0 (mput M m_many 0) 0 0 0
set_option maxHeartbeats 4000000 in
set_option maxRecDepth 100000 in
/-- cut() of an empty text -/
theorem t_cut0 (l : Launch) (g : GG) (o : Nat) (ad : Nat → Nat) (M : MS) (hlen : M.1 m_length = 0) : KV l yM_cut cM_cut 3 (rD 1 0 0) g (mW g o ad M) (mW g o ad) [.ref o] (fun M' : MS => M' = s_cut0 M) := by
  refine KV.of (by decide) (Nat.le_of_ble_eq_true rfl) ?_
  intro p e s m below meth c A ls C hr hlk hnm h hl
  have hx := C.1.1
  have hb := C.1.2.1
  have hl : lv_has ls 3 [(0, .ref o)] := hl
  refine lv_aload_n hx hb dM_cut_0 rfl (lv_at hl 0 rfl) ?_
  refine lv_iconst (v := 0) hx hb dM_cut_1 (by decide) ?_
  refine mpi C h m_many (by decide) rfl rfl rfl (v := 0) rfl rfl dM_cut_2 (fun H locs h => ?_)
  refine lv_iconst (v := 0) hx hb dM_cut_5 (by decide) ?_
  refine lv_istore_n (lv' := [(1, .int (0)), (0, .ref o)]) hx hb dM_cut_6 rfl hl (by decide) rfl (fun ls hl => ?_)
  refine lv_iconst (v := 0) hx hb dM_cut_7 (by decide) ?_
  refine lv_istore_n (lv' := [(2, .int (0)), (1, .int (0)), (0, .ref o)]) hx hb dM_cut_8 rfl hl (by decide) rfl (fun ls hl => ?_)
  refine lv_iload_n hx hb dM_cut_9 rfl (lv_at hl 0 rfl) ?_
  refine lv_if_ne (tgt := 70) hx hb dM_cut_10 (by decide) (fun c10 => absurd c10 (by decide)) (fun c10 => ?_)
  refine lv_aload_n hx hb dM_cut_13 rfl (lv_at hl 2 rfl) ?_
  refine mgi C h m_many (by decide) rfl (v := 0) rfl rfl dM_cut_14 ?_
  refine lv_sipush (v := 1200) hx hb dM_cut_17 (by decide) ?_
  refine lv_icmp_gt (tgt := 70) hx hb dM_cut_20 (by decide) (fun c20 => absurd c20 (by decide)) (fun c20 => ?_)
  refine lv_aload_n hx hb dM_cut_23 rfl (lv_at hl 2 rfl) ?_
  refine lv_iload_n hx hb dM_cut_24 rfl (lv_at hl 1 rfl) ?_
  refine KI.callV (As := [.int (0)]) (q0 := 0) (ci := 0) C h (t_behindBlanks0 l g o ad (mput M m_many 0) hlen) vM_cut_421 ⟨by decide, by decide⟩ rfl rfl hl.1 rfl (by decide) dM_cut_25 ⟨by decide, by decide⟩ (fun r_1 u_2 H locs hp h => ?_)
  obtain ⟨eu, er⟩ := hp
  rw [eu] at h
  subst er
  refine lv_istore_n (lv' := [(1, .int (0)), (2, .int (0)), (0, .ref o)]) hx hb dM_cut_28 rfl hl (by decide) rfl (fun ls hl => ?_)
  refine lv_iload_n hx hb dM_cut_29 rfl (lv_at hl 0 rfl) ?_
  refine lv_aload_n hx hb dM_cut_30 rfl (lv_at hl 2 rfl) ?_
  refine mgi C h m_length (by decide) rfl (v := 0) hlen rfl dM_cut_31 ?_
  refine lv_icmp_lt (tgt := 40) hx hb dM_cut_34 (by decide) (fun c34 => absurd c34 (by decide)) (fun c34 => ?_)
  refine lv_goto (tgt := 70) hx hb dM_cut_37 (by decide) ?_
  refine lv_iload_n hx hb dM_cut_70 rfl (lv_at hl 1 rfl) ?_
  refine lv_if_ne (tgt := 94) hx hb dM_cut_71 (by decide) (fun c71 => absurd c71 (by decide)) (fun c71 => ?_)
  refine lv_aload_n hx hb dM_cut_74 rfl (lv_at hl 2 rfl) ?_
  refine mgi C h m_many (by decide) rfl (v := 0) rfl rfl dM_cut_75 ?_
  refine lv_sipush (v := 1200) hx hb dM_cut_78 (by decide) ?_
  refine lv_icmp_gt (tgt := 94) hx hb dM_cut_81 (by decide) (fun c81 => absurd c81 (by decide)) (fun c81 => ?_)
  refine lv_aload_n hx hb dM_cut_84 rfl (lv_at hl 2 rfl) ?_
  refine lv_iconst (v := 0) hx hb dM_cut_85 (by decide) ?_
  refine lv_aload_n hx hb dM_cut_86 rfl (lv_at hl 2 rfl) ?_
  refine mgi C h m_length (by decide) rfl (v := 0) hlen rfl dM_cut_87 ?_
  refine lv_lconst (v := 0) hx hb dM_cut_90 (by decide) ?_
  refine KV.callV (As := [.int (0), .int (0), .long (0)]) (q0 := 0) (ci := 0) C h (t_token0 l g o ad (mput M m_many 0) 0 0 0 rfl) vM_cut_427 ⟨by decide, by decide⟩ rfl rfl hl.1 rfl (by decide) dM_cut_91 ⟨by decide, by decide⟩ (fun u_4 H locs hp h => ?_)
  subst hp
  exact KV.ret C hr hlk (s_token0 (mput M m_many 0) 0 0 0) h rfl (by decide) (by decide) dM_cut_94

set_option maxHeartbeats 4000000 in
set_option maxRecDepth 100000 in
/-- isWord() at the end of an empty text -/
theorem t_isWord0 (l : Launch) (g : GG) (o : Nat) (ad : Nat → Nat) (M : MS) (a1 : Int32) (hat : M.1 m_at = 0) (htk : M.2.1 m_tk (0 : Int32).toNatClampNeg = 0) : KI l yM_isWord cM_isWord 2 (some .boolean) (rD 0 0 0) g (mW g o ad M) (mW g o ad) [.ref o, .int (a1)] (fun (r : Int32) (M' : MS) => M' = M ∧ r = 0) := by
  refine KI.of (by decide) (Nat.le_of_ble_eq_true rfl) ?_
  intro p e s m below meth c A ls C hr hlk hnm h hl
  have hx := C.1.1
  have hb := C.1.2.1
  have hl : lv_has ls 2 [(0, .ref o), (1, .int (a1))] := hl
  refine lv_aload_n hx hb dM_isWord_0 rfl (lv_at hl 0 rfl) ?_
  refine mga C h m_tk (by decide) (by decide) rfl dM_isWord_1 ?_
  refine lv_aload_n hx hb dM_isWord_4 rfl (lv_at hl 0 rfl) ?_
  refine mgi C h m_at (by decide) rfl (v := 0) hat rfl dM_isWord_5 ?_
  refine mai C h m_tk (by decide) rfl (pk_in 0 1202 (by decide) rfl) (v := 0) htk dM_isWord_8 ?_
  refine lv_iconst (v := 4) hx hb dM_isWord_9 (by decide) ?_
  refine lv_icmp_ne (tgt := 32) hx hb dM_isWord_10 (by decide) (fun c10 => ?_) (fun c10 => absurd c10 (by decide))
  refine lv_iconst (v := 0) hx hb dM_isWord_32 (by decide) ?_
  exact KI.ret C hr hlk M h rfl ⟨rfl, rfl⟩ (by decide) (by decide) dM_isWord_33

set_option maxHeartbeats 4000000 in
set_option maxRecDepth 100000 in
/-- mayWord() at the end of an empty text -/
theorem t_mayWord0 (l : Launch) (g : GG) (o : Nat) (ad : Nat → Nat) (M : MS) (a1 : Int32) (hf : M.1 m_fault = 0) (hat : M.1 m_at = 0) (htk : M.2.1 m_tk (0 : Int32).toNatClampNeg = 0) : KI l yM_mayWord cM_mayWord 3 (some .boolean) (rD 1 0 0) g (mW g o ad M) (mW g o ad) [.ref o, .int (a1)] (fun (r : Int32) (M' : MS) => M' = M ∧ r = 0) := by
  refine KI.of (by decide) (Nat.le_of_ble_eq_true rfl) ?_
  intro p e s m below meth c A ls C hr hlk hnm h hl
  have hx := C.1.1
  have hb := C.1.2.1
  have hl : lv_has ls 3 [(0, .ref o), (1, .int (a1))] := hl
  refine lv_aload_n hx hb dM_mayWord_0 rfl (lv_at hl 0 rfl) ?_
  refine KI.callV (As := []) (q0 := 0) (ci := 0) C h (t_stops l g o ad M) vM_mayWord_461 ⟨by decide, by decide⟩ rfl rfl hl.1 rfl (by decide) dM_mayWord_1 ⟨by decide, by decide⟩ (fun r_1 u_2 H locs hp h => ?_)
  obtain ⟨eu, er⟩ := hp
  rw [eu] at h
  have er : r_1 = 0 := by rw [er]; simp [mStops, hf]
  subst er
  refine lv_if_ne (tgt := 19) hx hb dM_mayWord_4 (by decide) (fun c4 => absurd c4 (by decide)) (fun c4 => ?_)
  refine lv_aload_n hx hb dM_mayWord_7 rfl (lv_at hl 0 rfl) ?_
  refine lv_iload_n hx hb dM_mayWord_8 rfl (lv_at hl 1 rfl) ?_
  refine KI.callV (As := [.int (a1)]) (q0 := 0) (ci := 0) C h (t_isWord0 l g o ad M a1 hat htk) vM_mayWord_471 ⟨by decide, by decide⟩ rfl rfl hl.1 rfl (by decide) dM_mayWord_9 ⟨by decide, by decide⟩ (fun r_3 u_4 H locs hp h => ?_)
  obtain ⟨eu, er⟩ := hp
  rw [eu] at h
  subst er
  refine lv_if_eq (tgt := 19) hx hb dM_mayWord_12 (by decide) (fun c12 => ?_) (fun c12 => absurd c12 (by decide))
  refine lv_iconst (v := 0) hx hb dM_mayWord_19 (by decide) ?_
  refine lv_istore_n (lv' := [(2, .int (0)), (0, .ref o), (1, .int (a1))]) hx hb dM_mayWord_20 rfl hl (by decide) rfl (fun ls hl => ?_)
  refine lv_iload_n hx hb dM_mayWord_21 rfl (lv_at hl 0 rfl) ?_
  refine lv_if_eq (tgt := 29) hx hb dM_mayWord_22 (by decide) (fun c22 => ?_) (fun c22 => absurd c22 (by decide))
  refine lv_iload_n hx hb dM_mayWord_29 rfl (lv_at hl 0 rfl) ?_
  exact KI.ret C hr hlk M h rfl ⟨rfl, rfl⟩ (by decide) (by decide) dM_mayWord_30

set_option maxHeartbeats 4000000 in
set_option maxRecDepth 100000 in
/-- system() of an empty text: SYNTAX -/
theorem t_system0 (l : Launch) (g : GG) (o : Nat) (ad : Nat → Nat) (M : MS) (hf : M.1 m_fault = 0) (hj : M.1 m_judges = 0) (htk : M.2.1 m_tk (0 : Int32).toNatClampNeg = 0) : KV l yM_system cM_system 5 (rD 2 0 0) g (mW g o ad M) (mW g o ad) [.ref o] (fun M' : MS => M'.1 m_fault = 1 ∧ M'.1 m_there = M.1 m_there) := by
  refine KV.of (by decide) (Nat.le_of_ble_eq_true rfl) ?_
  intro p e s m below meth c A ls C hr hlk hnm h hl
  have hx := C.1.1
  have hb := C.1.2.1
  have hl : lv_has ls 5 [(0, .ref o)] := hl
  refine lv_aload_n hx hb dM_system_0 rfl (lv_at hl 0 rfl) ?_
  refine lv_iconst (v := 0) hx hb dM_system_1 (by decide) ?_
  refine mpi C h m_at (by decide) rfl rfl rfl (v := 0) rfl rfl dM_system_2 (fun H locs h => ?_)
  refine lv_aload_n hx hb dM_system_5 rfl (lv_at hl 0 rfl) ?_
  refine lv_iconst (v := 0) hx hb dM_system_6 (by decide) ?_
  refine mpi C h m_open (by decide) rfl rfl rfl (v := 0) rfl rfl dM_system_7 (fun H locs h => ?_)
  refine lv_aload_n hx hb dM_system_10 rfl (lv_at hl 0 rfl) ?_
  refine lv_iconst (v := 0) hx hb dM_system_11 (by decide) ?_
  refine mpi C h m_codes (by decide) rfl rfl rfl (v := 0) rfl rfl dM_system_12 (fun H locs h => ?_)
  refine lv_aload_n hx hb dM_system_15 rfl (lv_at hl 0 rfl) ?_
  refine lv_iconst (v := 0) hx hb dM_system_16 (by decide) ?_
  refine mpi C h m_forms (by decide) rfl rfl rfl (v := 0) rfl rfl dM_system_17 (fun H locs h => ?_)
  refine lv_aload_n hx hb dM_system_20 rfl (lv_at hl 0 rfl) ?_
  refine lv_iconst (v := 0) hx hb dM_system_21 (by decide) ?_
  refine mpi C h m_stims (by decide) rfl rfl rfl (v := 0) rfl rfl dM_system_22 (fun H locs h => ?_)
  refine lv_aload_n hx hb dM_system_25 rfl (lv_at hl 0 rfl) ?_
  refine lv_iconst (v := 0) hx hb dM_system_26 (by decide) ?_
  refine mpi C h m_ins (by decide) rfl rfl rfl (v := 0) rfl rfl dM_system_27 (fun H locs h => ?_)
  refine lv_aload_n hx hb dM_system_30 rfl (lv_at hl 0 rfl) ?_
  refine lv_iconst (v := 0) hx hb dM_system_31 (by decide) ?_
  refine mpi C h m_ranges (by decide) rfl rfl rfl (v := 0) rfl rfl dM_system_32 (fun H locs h => ?_)
  refine lv_aload_n hx hb dM_system_35 rfl (lv_at hl 0 rfl) ?_
  refine lv_iconst (v := 0) hx hb dM_system_36 (by decide) ?_
  refine mpi C h m_transes (by decide) rfl rfl rfl (v := 0) rfl rfl dM_system_37 (fun H locs h => ?_)
  refine lv_iconst (v := 0) hx hb dM_system_40 (by decide) ?_
  refine lv_istore_n (lv' := [(1, .int (0)), (0, .ref o)]) hx hb dM_system_41 rfl hl (by decide) rfl (fun ls hl => ?_)
  refine lv_iconst (v := 0) hx hb dM_system_42 (by decide) ?_
  refine lv_istore_n (lv' := [(2, .int (0)), (1, .int (0)), (0, .ref o)]) hx hb dM_system_43 rfl hl (by decide) rfl (fun ls hl => ?_)
  refine lv_iconst (v := 0) hx hb dM_system_44 (by decide) ?_
  refine lv_istore_n (lv' := [(3, .int (0)), (2, .int (0)), (1, .int (0)), (0, .ref o)]) hx hb dM_system_45 rfl hl (by decide) rfl (fun ls hl => ?_)
  refine lv_iconst (v := 1) hx hb dM_system_46 (by decide) ?_
  refine lv_istore (lv' := [(4, .int (1)), (3, .int (0)), (2, .int (0)), (1, .int (0)), (0, .ref o)]) hx hb dM_system_47 hl (by decide) rfl (fun ls hl => ?_)
  refine lv_aload_n hx hb dM_system_49 rfl (lv_at hl 4 rfl) ?_
  refine KI.callV (As := []) (q0 := 0) (ci := 0) C h (t_stops l g o ad (mput (mput (mput (mput (mput (mput (mput (mput M m_at 0) m_open 0) m_codes 0) m_forms 0) m_stims 0) m_ins 0) m_ranges 0) m_transes 0)) vM_system_461 ⟨by decide, by decide⟩ rfl rfl hl.1 rfl (by decide) dM_system_50 ⟨by decide, by decide⟩ (fun r_1 u_2 H locs hp h => ?_)
  obtain ⟨eu, er⟩ := hp
  rw [eu] at h
  have er : r_1 = 0 := er.trans (by show mStops _ = 0; exact if_pos (by show M.1 m_fault ≤ 0; rw [hf]; decide))
  subst er
  refine lv_if_ne (tgt := 136) hx hb dM_system_53 (by decide) (fun c53 => absurd c53 (by decide)) (fun c53 => ?_)
  refine lv_iload hx hb dM_system_56 (lv_at hl 0 rfl) ?_
  refine lv_if_ne (tgt := 73) hx hb dM_system_58 (by decide) (fun c58 => ?_) (fun c58 => absurd c58 (by decide))
  refine lv_iconst (v := 0) hx hb dM_system_73 (by decide) ?_
  refine lv_istore (lv' := [(4, .int (0)), (3, .int (0)), (2, .int (0)), (1, .int (0)), (0, .ref o)]) hx hb dM_system_74 hl (by decide) rfl (fun ls hl => ?_)
  refine lv_aload_n hx hb dM_system_76 rfl (lv_at hl 4 rfl) ?_
  refine lv_iconst (v := 0) hx hb dM_system_77 (by decide) ?_
  refine KI.callV (As := [.int (0)]) (q0 := 0) (ci := 0) C h (t_mayWord0 l g o ad (mput (mput (mput (mput (mput (mput (mput (mput M m_at 0) m_open 0) m_codes 0) m_forms 0) m_stims 0) m_ins 0) m_ranges 0) m_transes 0) 0 hf rfl htk) vM_system_522 ⟨by decide, by decide⟩ rfl rfl hl.1 rfl (by decide) dM_system_78 ⟨by decide, by decide⟩ (fun r_3 u_4 H locs hp h => ?_)
  obtain ⟨eu, er⟩ := hp
  rw [eu] at h
  subst er
  refine lv_if_eq (tgt := 91) hx hb dM_system_81 (by decide) (fun c81 => ?_) (fun c81 => absurd c81 (by decide))
  refine lv_aload_n hx hb dM_system_91 rfl (lv_at hl 4 rfl) ?_
  refine lv_iconst (v := 1) hx hb dM_system_92 (by decide) ?_
  refine KI.callV (As := [.int (1)]) (q0 := 0) (ci := 0) C h (t_mayWord0 l g o ad (mput (mput (mput (mput (mput (mput (mput (mput M m_at 0) m_open 0) m_codes 0) m_forms 0) m_stims 0) m_ins 0) m_ranges 0) m_transes 0) 1 hf rfl htk) vM_system_522 ⟨by decide, by decide⟩ rfl rfl hl.1 rfl (by decide) dM_system_93 ⟨by decide, by decide⟩ (fun r_5 u_6 H locs hp h => ?_)
  obtain ⟨eu, er⟩ := hp
  rw [eu] at h
  subst er
  refine lv_if_eq (tgt := 110) hx hb dM_system_96 (by decide) (fun c96 => ?_) (fun c96 => absurd c96 (by decide))
  refine lv_aload_n hx hb dM_system_110 rfl (lv_at hl 4 rfl) ?_
  refine lv_iconst (v := 2) hx hb dM_system_111 (by decide) ?_
  refine KI.callV (As := [.int (2)]) (q0 := 0) (ci := 0) C h (t_mayWord0 l g o ad (mput (mput (mput (mput (mput (mput (mput (mput M m_at 0) m_open 0) m_codes 0) m_forms 0) m_stims 0) m_ins 0) m_ranges 0) m_transes 0) 2 hf rfl htk) vM_system_522 ⟨by decide, by decide⟩ rfl rfl hl.1 rfl (by decide) dM_system_112 ⟨by decide, by decide⟩ (fun r_7 u_8 H locs hp h => ?_)
  obtain ⟨eu, er⟩ := hp
  rw [eu] at h
  subst er
  refine lv_if_eq (tgt := 129) hx hb dM_system_115 (by decide) (fun c115 => ?_) (fun c115 => absurd c115 (by decide))
  refine lv_aload_n hx hb dM_system_129 rfl (lv_at hl 4 rfl) ?_
  refine KV.callV (As := []) (q0 := 0) (ci := 0) C h (t_wrong0 l g o ad (mput (mput (mput (mput (mput (mput (mput (mput M m_at 0) m_open 0) m_codes 0) m_forms 0) m_stims 0) m_ins 0) m_ranges 0) m_transes 0) hf rfl) vM_system_474 ⟨by decide, by decide⟩ rfl rfl hl.1 rfl (by decide) dM_system_130 ⟨by decide, by decide⟩ (fun u_10 H locs hp h => ?_)
  subst hp
  refine lv_goto (tgt := 49) hx hb dM_system_133 (by decide) ?_
  refine lv_aload_n hx hb dM_system_49 rfl (lv_at hl 4 rfl) ?_
  refine KI.callV (As := []) (q0 := 0) (ci := 0) C h (t_stops l g o ad (s_wrong0 (mput (mput (mput (mput (mput (mput (mput (mput M m_at 0) m_open 0) m_codes 0) m_forms 0) m_stims 0) m_ins 0) m_ranges 0) m_transes 0))) vM_system_461 ⟨by decide, by decide⟩ rfl rfl hl.1 rfl (by decide) dM_system_50 ⟨by decide, by decide⟩ (fun r_11 u_12 H locs hp h => ?_)
  obtain ⟨eu, er⟩ := hp
  rw [eu] at h
  have er : r_11 = 1 := er.trans (by show (if (1 : Int32) ≤ 0 then (0 : Int32) else if M.1 m_judges = 0 then 1 else 0) = 1; rw [hj]; decide)
  subst er
  refine lv_if_ne (tgt := 136) hx hb dM_system_53 (by decide) (fun c53 => ?_) (fun c53 => absurd c53 (by decide))
  exact KV.ret C hr hlk (s_wrong0 (mput (mput (mput (mput (mput (mput (mput (mput M m_at 0) m_open 0) m_codes 0) m_forms 0) m_stims 0) m_ins 0) m_ranges 0) m_transes 0)) h ⟨rfl, rfl⟩ (by decide) (by decide) dM_system_136

set_option maxHeartbeats 4000000 in
set_option maxRecDepth 100000 in
/-- parse() of an empty text: a fault -/
theorem t_parse0 (l : Launch) (g : GG) (o : Nat) (ad : Nat → Nat) (M : MS) (hlen : M.1 m_length = 0) : KI l yM_parse cM_parse 1 (some .boolean) (rD 3 0 0) g (mW g o ad M) (mW g o ad) [.ref o] (fun (r : Int32) (M' : MS) => r = 0 ∧ M'.1 m_fault = 1 ∧ M'.1 m_there = M.1 m_there) := by
  refine KI.of (by decide) (Nat.le_of_ble_eq_true rfl) ?_
  intro p e s m below meth c A ls C hr hlk hnm h hl
  have hx := C.1.1
  have hb := C.1.2.1
  have hl : lv_has ls 1 [(0, .ref o)] := hl
  refine lv_aload_n hx hb dM_parse_0 rfl (lv_at hl 0 rfl) ?_
  refine lv_iconst (v := 0) hx hb dM_parse_1 (by decide) ?_
  refine mpi C h m_sigs (by decide) rfl rfl rfl (v := 0) rfl rfl dM_parse_2 (fun H locs h => ?_)
  refine lv_aload_n hx hb dM_parse_5 rfl (lv_at hl 0 rfl) ?_
  refine lv_iconst (v := 0) hx hb dM_parse_6 (by decide) ?_
  refine mpi C h m_routes (by decide) rfl rfl rfl (v := 0) rfl rfl dM_parse_7 (fun H locs h => ?_)
  refine lv_aload_n hx hb dM_parse_10 rfl (lv_at hl 0 rfl) ?_
  refine lv_iconst (v := 0) hx hb dM_parse_11 (by decide) ?_
  refine mpi C h m_types (by decide) rfl rfl rfl (v := 0) rfl rfl dM_parse_12 (fun H locs h => ?_)
  refine lv_aload_n hx hb dM_parse_15 rfl (lv_at hl 0 rfl) ?_
  refine lv_iconst (v := 0) hx hb dM_parse_16 (by decide) ?_
  refine mpi C h m_globals (by decide) rfl rfl rfl (v := 0) rfl rfl dM_parse_17 (fun H locs h => ?_)
  refine lv_aload_n hx hb dM_parse_20 rfl (lv_at hl 0 rfl) ?_
  refine lv_iconst (v := 0) hx hb dM_parse_21 (by decide) ?_
  refine mpi C h m_fault (by decide) rfl rfl rfl (v := 0) rfl rfl dM_parse_22 (fun H locs h => ?_)
  refine lv_aload_n hx hb dM_parse_25 rfl (lv_at hl 0 rfl) ?_
  refine lv_iconst (v := 0) hx hb dM_parse_26 (by decide) ?_
  refine mpi C h m_judges (by decide) rfl rfl rfl (v := 0) rfl rfl dM_parse_27 (fun H locs h => ?_)
  refine lv_aload_n hx hb dM_parse_30 rfl (lv_at hl 0 rfl) ?_
  refine KV.callV (As := []) (q0 := 0) (ci := 0) C h (t_cut0 l g o ad (mput (mput (mput (mput (mput (mput M m_sigs 0) m_routes 0) m_types 0) m_globals 0) m_fault 0) m_judges 0) hlen) vM_parse_801 ⟨by decide, by decide⟩ rfl rfl hl.1 rfl (by decide) dM_parse_31 ⟨by decide, by decide⟩ (fun u_2 H locs hp h => ?_)
  subst hp
  refine lv_aload_n hx hb dM_parse_34 rfl (lv_at hl 0 rfl) ?_
  refine KV.callV (As := []) (q0 := 0) (ci := 0) C h (t_system0 l g o ad (s_cut0 (mput (mput (mput (mput (mput (mput M m_sigs 0) m_routes 0) m_types 0) m_globals 0) m_fault 0) m_judges 0)) rfl rfl rfl) vM_parse_804 ⟨by decide, by decide⟩ rfl rfl hl.1 rfl (by decide) dM_parse_35 ⟨by decide, by decide⟩ (fun u_4 H locs hp h => ?_)
  obtain ⟨hq1, hq2⟩ := hp
  refine lv_aload_n hx hb dM_parse_38 rfl (lv_at hl 0 rfl) ?_
  refine mgi C h m_fault (by decide) rfl (v := 1) hq1 rfl dM_parse_39 ?_
  refine lv_if_le (tgt := 47) hx hb dM_parse_42 (by decide) (fun c42 => absurd c42 (by decide)) (fun c42 => ?_)
  refine lv_iconst (v := 0) hx hb dM_parse_45 (by decide) ?_
  exact KI.ret C hr hlk u_4 h rfl ⟨rfl, hq1, hq2⟩ (by decide) (by decide) dM_parse_46

def nLoad (a : Int32) : Int32 := if a = 0 then 1 else -2
set_option maxHeartbeats 4000000 in
set_option maxRecDepth 100000 in
/-- load() on a fresh object -/
theorem t_load0 (l : Launch) (g : GG) (o : Nat) (ad : Nat → Nat) (M : MS) (a1 : Int32) (hthere : M.1 m_there = 0) (htap : M.1 m_taped = 0) : KI l yM_load cM_load 4 (some .int) (rD 4 0 0) g (mW g o ad M) (mW g o ad) [.ref o, .int (a1)] (fun (r : Int32) (M' : MS) => r = nLoad a1) := by
  refine KI.of (by decide) (Nat.le_of_ble_eq_true rfl) ?_
  intro p e s m below meth c A ls C hr hlk hnm h hl
  have hx := C.1.1
  have hb := C.1.2.1
  have hl : lv_has ls 4 [(0, .ref o), (1, .int (a1))] := hl
  refine lv_iload_n hx hb dM_load_0 rfl (lv_at hl 1 rfl) ?_
  refine lv_if_lt (tgt := 12) hx hb dM_load_1 (by decide) (fun c1 => ?_) (fun c1 => ?_)
  · refine lv_bipush (v := -2) hx hb dM_load_12 (by decide) ?_
    exact KI.ret C hr hlk M h rfl (if_neg (fun z => by rw [z] at c1; exact absurd c1 (by decide))).symm (by decide) (by decide) dM_load_14
  · refine lv_iload_n hx hb dM_load_4 rfl (lv_at hl 1 rfl) ?_
    refine lv_aload_n hx hb dM_load_5 rfl (lv_at hl 0 rfl) ?_
    refine mgi C h m_taped (by decide) rfl (v := 0) htap rfl dM_load_6 ?_
    refine lv_icmp_le (tgt := 15) hx hb dM_load_9 (by decide) (fun c9 => ?_) (fun c9 => ?_)
    · have ea : a1 = 0 := Int32.le_antisymm c9 (Int32.not_lt.mp c1)
      subst ea
      refine lv_aload_n hx hb dM_load_15 rfl (lv_at hl 0 rfl) ?_
      refine lv_iload_n hx hb dM_load_16 rfl (lv_at hl 1 rfl) ?_
      refine KV.callV (As := [.int (0)]) (q0 := 0) (ci := 0) C h (t_toText0 l g o ad M) vM_load_810 ⟨by decide, by decide⟩ rfl rfl hl.1 rfl (by decide) dM_load_17 ⟨by decide, by decide⟩ (fun u_2 H locs hp h => ?_)
      subst hp
      refine lv_aload_n hx hb dM_load_20 rfl (lv_at hl 0 rfl) ?_
      refine KI.callV (As := []) (q0 := 0) (ci := 0) C h (t_parse0 l g o ad (s_toText0 M) rfl) vM_load_813 ⟨by decide, by decide⟩ rfl rfl hl.1 rfl (by decide) dM_load_21 ⟨by decide, by decide⟩ (fun r_3 u_4 H locs hp h => ?_)
      obtain ⟨rfl, hq1, hq2⟩ := hp
      have hq2 : u_4.1 m_there = 0 := hq2.trans hthere
      refine lv_if_eq (tgt := 78) hx hb dM_load_24 (by decide) (fun c24 => ?_) (fun c24 => absurd c24 (by decide))
      refine lv_aload_n hx hb dM_load_78 rfl (lv_at hl 0 rfl) ?_
      refine lv_aload_n hx hb dM_load_79 rfl (lv_at hl 0 rfl) ?_
      refine mgi C h m_faultAt (by decide) rfl (v := u_4.1 m_faultAt) rfl rfl dM_load_80 ?_
      refine mpi C h m_place (by decide) rfl rfl rfl (v := u_4.1 m_faultAt) rfl rfl dM_load_83 (fun H locs h => ?_)
      refine lv_aload_n hx hb dM_load_86 rfl (lv_at hl 0 rfl) ?_
      refine mgi C h m_fault (by decide) rfl (v := 1) hq1 rfl dM_load_87 ?_
      refine lv_istore_n (lv' := [(2, .int (1)), (0, .ref o), (1, .int (0))]) hx hb dM_load_90 rfl hl (by decide) rfl (fun ls hl => ?_)
      refine lv_aload_n hx hb dM_load_91 rfl (lv_at hl 1 rfl) ?_
      refine mgi C h m_there (by decide) rfl (v := 0) hq2 rfl dM_load_92 ?_
      refine lv_if_eq (tgt := 139) hx hb dM_load_95 (by decide) (fun c95 => ?_) (fun c95 => absurd c95 (by decide))
      refine lv_iload_n hx hb dM_load_139 rfl (lv_at hl 0 rfl) ?_
      exact KI.ret C hr hlk (mput u_4 m_place (u_4.1 m_faultAt)) h rfl rfl (by decide) (by decide) dM_load_140
    · refine lv_bipush (v := -2) hx hb dM_load_12 (by decide) ?_
      exact KI.ret C hr hlk M h rfl (if_neg (fun z => by rw [z] at c9; exact absurd c9 (by decide))).symm (by decide) (by decide) dM_load_14

def nChart (a : Int32) : Int32 := if a = 0 then -1 else -2
set_option maxHeartbeats 4000000 in
set_option maxRecDepth 100000 in
/-- chart() on a fresh object -/
theorem t_chart0 (l : Launch) (g : GG) (o : Nat) (ad : Nat → Nat) (M : MS) (a1 : Int32) (hruns : M.1 m_runs = 0) (htap : M.1 m_taped = 0) : KI l yM_chart cM_chart 2 (some .int) (rD 1 0 0) g (mW g o ad M) (mW g o ad) [.ref o, .int (a1)] (fun (r : Int32) (M' : MS) => r = nChart a1) := by
  refine KI.of (by decide) (Nat.le_of_ble_eq_true rfl) ?_
  intro p e s m below meth c A ls C hr hlk hnm h hl
  have hx := C.1.1
  have hb := C.1.2.1
  have hl : lv_has ls 2 [(0, .ref o), (1, .int (a1))] := hl
  refine lv_iload_n hx hb dM_chart_0 rfl (lv_at hl 1 rfl) ?_
  refine lv_if_lt (tgt := 12) hx hb dM_chart_1 (by decide) (fun c1 => ?_) (fun c1 => ?_)
  · refine lv_bipush (v := -2) hx hb dM_chart_12 (by decide) ?_
    exact KI.ret C hr hlk M h rfl (if_neg (fun z => by rw [z] at c1; exact absurd c1 (by decide))).symm (by decide) (by decide) dM_chart_14
  · refine lv_iload_n hx hb dM_chart_4 rfl (lv_at hl 1 rfl) ?_
    refine lv_aload_n hx hb dM_chart_5 rfl (lv_at hl 0 rfl) ?_
    refine mgi C h m_taped (by decide) rfl (v := 0) htap rfl dM_chart_6 ?_
    refine lv_icmp_le (tgt := 15) hx hb dM_chart_9 (by decide) (fun c9 => ?_) (fun c9 => ?_)
    · have ea : a1 = 0 := Int32.le_antisymm c9 (Int32.not_lt.mp c1)
      subst ea
      refine lv_aload_n hx hb dM_chart_15 rfl (lv_at hl 0 rfl) ?_
      refine lv_iload_n hx hb dM_chart_16 rfl (lv_at hl 1 rfl) ?_
      refine KV.callV (As := [.int (0)]) (q0 := 0) (ci := 0) C h (t_toText0 l g o ad M) vM_chart_810 ⟨by decide, by decide⟩ rfl rfl hl.1 rfl (by decide) dM_chart_17 ⟨by decide, by decide⟩ (fun u_2 H locs hp h => ?_)
      subst hp
      refine lv_aload_n hx hb dM_chart_20 rfl (lv_at hl 0 rfl) ?_
      refine mgi C h m_runs (by decide) rfl (v := 0) hruns rfl dM_chart_21 ?_
      refine lv_if_ne (tgt := 29) hx hb dM_chart_24 (by decide) (fun c24 => absurd c24 (by decide)) (fun c24 => ?_)
      refine lv_iconst (v := -1) hx hb dM_chart_27 (by decide) ?_
      exact KI.ret C hr hlk (s_toText0 M) h rfl rfl (by decide) (by decide) dM_chart_28
    · refine lv_bipush (v := -2) hx hb dM_chart_12 (by decide) ?_
      exact KI.ret C hr hlk M h rfl (if_neg (fun z => by rw [z] at c9; exact absurd c9 (by decide))).symm (by decide) (by decide) dM_chart_14
end
