section
-- ===== PART A: goes FIRST, ahead of the names: the tables' words, and 'selects' of the private methods out of them =====
/-- a private method of a class that the tables say can be made, by its rows of tables_1 -/
def lw_okq (q : MethodName × Nat) : Prop := (q.1.cls ≠ "java/lang/invoke/MethodHandle" ∧ q.1.cls ≠ "java/lang/invoke/VarHandle") ∧ Cond.instantiable q.1.cls q.2 ∈ tables_1 ∧ Cond.privateMethod q.1 ∈ tables_1 ∧ Cond.instanceMethod q.1 ∈ tables_1
theorem lw_p0 : lw_okq (⟨"java/lang/Throwable", "fillInStackTrace", "(I)Ljava/lang/Throwable;"⟩, 6) := ⟨⟨by decide +kernel, by decide +kernel⟩, List.mem_of_getElem? (i := 492) (by decide +kernel), List.mem_of_getElem? (i := 490) (by decide +kernel), List.mem_of_getElem? (i := 491) (by decide +kernel)⟩
theorem lw_p1 : lw_okq (⟨"PointsTo$Tokens", "addLetter", "(CII)V"⟩, 5) := ⟨⟨by decide +kernel, by decide +kernel⟩, List.mem_of_getElem? (i := 38) (by decide +kernel), List.mem_of_getElem? (i := 561) (by decide +kernel), List.mem_of_getElem? (i := 562) (by decide +kernel)⟩
theorem lw_p2 : lw_okq (⟨"PointsTo$Tokens", "add", "(II)V"⟩, 5) := ⟨⟨by decide +kernel, by decide +kernel⟩, List.mem_of_getElem? (i := 38) (by decide +kernel), List.mem_of_getElem? (i := 565) (by decide +kernel), List.mem_of_getElem? (i := 566) (by decide +kernel)⟩
theorem lw_p3 : lw_okq (⟨"PointsTo$Tokens", "tellWords", "()V"⟩, 5) := ⟨⟨by decide +kernel, by decide +kernel⟩, List.mem_of_getElem? (i := 38) (by decide +kernel), List.mem_of_getElem? (i := 572) (by decide +kernel), List.mem_of_getElem? (i := 573) (by decide +kernel)⟩
theorem lw_p4 : lw_okq (⟨"PointsTo$Parser", "parseClassHead", "()Z"⟩, 5) := ⟨⟨by decide +kernel, by decide +kernel⟩, List.mem_of_getElem? (i := 32) (by decide +kernel), List.mem_of_getElem? (i := 576) (by decide +kernel), List.mem_of_getElem? (i := 577) (by decide +kernel)⟩
theorem lw_p5 : lw_okq (⟨"PointsTo$Parser", "take", "(I)Z"⟩, 5) := ⟨⟨by decide +kernel, by decide +kernel⟩, List.mem_of_getElem? (i := 32) (by decide +kernel), List.mem_of_getElem? (i := 580) (by decide +kernel), List.mem_of_getElem? (i := 581) (by decide +kernel)⟩
theorem lw_p6 : lw_okq (⟨"PointsTo$Parser", "kind", "()I"⟩, 5) := ⟨⟨by decide +kernel, by decide +kernel⟩, List.mem_of_getElem? (i := 32) (by decide +kernel), List.mem_of_getElem? (i := 584) (by decide +kernel), List.mem_of_getElem? (i := 585) (by decide +kernel)⟩
theorem lw_p7 : lw_okq (⟨"PointsTo$Parser", "name", "()I"⟩, 5) := ⟨⟨by decide +kernel, by decide +kernel⟩, List.mem_of_getElem? (i := 32) (by decide +kernel), List.mem_of_getElem? (i := 588) (by decide +kernel), List.mem_of_getElem? (i := 589) (by decide +kernel)⟩
theorem lw_p8 : lw_okq (⟨"PointsTo$Parser", "refuse", "()Z"⟩, 5) := ⟨⟨by decide +kernel, by decide +kernel⟩, List.mem_of_getElem? (i := 32) (by decide +kernel), List.mem_of_getElem? (i := 603) (by decide +kernel), List.mem_of_getElem? (i := 604) (by decide +kernel)⟩
theorem lw_p9 : lw_okq (⟨"PointsTo$Parser", "parseField", "()Z"⟩, 5) := ⟨⟨by decide +kernel, by decide +kernel⟩, List.mem_of_getElem? (i := 32) (by decide +kernel), List.mem_of_getElem? (i := 611) (by decide +kernel), List.mem_of_getElem? (i := 612) (by decide +kernel)⟩
theorem lw_p10 : lw_okq (⟨"PointsTo$Parser", "parseMethod", "()Z"⟩, 5) := ⟨⟨by decide +kernel, by decide +kernel⟩, List.mem_of_getElem? (i := 32) (by decide +kernel), List.mem_of_getElem? (i := 627) (by decide +kernel), List.mem_of_getElem? (i := 628) (by decide +kernel)⟩
theorem lw_p11 : lw_okq (⟨"PointsTo$Program", "declared", "(II)I"⟩, 18) := ⟨⟨by decide +kernel, by decide +kernel⟩, List.mem_of_getElem? (i := 212) (by decide +kernel), List.mem_of_getElem? (i := 635) (by decide +kernel), List.mem_of_getElem? (i := 636) (by decide +kernel)⟩
theorem lw_p12 : lw_okq (⟨"PointsTo$Parser", "parseParameters", "()Z"⟩, 5) := ⟨⟨by decide +kernel, by decide +kernel⟩, List.mem_of_getElem? (i := 32) (by decide +kernel), List.mem_of_getElem? (i := 639) (by decide +kernel), List.mem_of_getElem? (i := 640) (by decide +kernel)⟩
theorem lw_p13 : lw_okq (⟨"PointsTo$Parser", "parseParameter", "()Z"⟩, 5) := ⟨⟨by decide +kernel, by decide +kernel⟩, List.mem_of_getElem? (i := 32) (by decide +kernel), List.mem_of_getElem? (i := 643) (by decide +kernel), List.mem_of_getElem? (i := 644) (by decide +kernel)⟩
theorem lw_p14 : lw_okq (⟨"PointsTo$Parser", "parseBody", "(I)Z"⟩, 5) := ⟨⟨by decide +kernel, by decide +kernel⟩, List.mem_of_getElem? (i := 32) (by decide +kernel), List.mem_of_getElem? (i := 655) (by decide +kernel), List.mem_of_getElem? (i := 656) (by decide +kernel)⟩
theorem lw_p15 : lw_okq (⟨"PointsTo$Parser", "parseBranch", "(LPointsTo$Statement;I)Z"⟩, 5) := ⟨⟨by decide +kernel, by decide +kernel⟩, List.mem_of_getElem? (i := 32) (by decide +kernel), List.mem_of_getElem? (i := 663) (by decide +kernel), List.mem_of_getElem? (i := 664) (by decide +kernel)⟩
def lw_privs_1 : List (MethodName × Nat) := [(⟨"java/lang/Throwable", "fillInStackTrace", "(I)Ljava/lang/Throwable;"⟩, 6), (⟨"PointsTo$Tokens", "addLetter", "(CII)V"⟩, 5), (⟨"PointsTo$Tokens", "add", "(II)V"⟩, 5), (⟨"PointsTo$Tokens", "tellWords", "()V"⟩, 5), (⟨"PointsTo$Parser", "parseClassHead", "()Z"⟩, 5), (⟨"PointsTo$Parser", "take", "(I)Z"⟩, 5), (⟨"PointsTo$Parser", "kind", "()I"⟩, 5), (⟨"PointsTo$Parser", "name", "()I"⟩, 5), (⟨"PointsTo$Parser", "refuse", "()Z"⟩, 5), (⟨"PointsTo$Parser", "parseField", "()Z"⟩, 5), (⟨"PointsTo$Parser", "parseMethod", "()Z"⟩, 5), (⟨"PointsTo$Program", "declared", "(II)I"⟩, 18), (⟨"PointsTo$Parser", "parseParameters", "()Z"⟩, 5), (⟨"PointsTo$Parser", "parseParameter", "()Z"⟩, 5), (⟨"PointsTo$Parser", "parseBody", "(I)Z"⟩, 5), (⟨"PointsTo$Parser", "parseBranch", "(LPointsTo$Statement;I)Z"⟩, 5)]
theorem lw_r1 : ∀ q ∈ lw_privs_1, lw_okq q := List.forall_mem_cons.mpr ⟨lw_p0, List.forall_mem_cons.mpr ⟨lw_p1, List.forall_mem_cons.mpr ⟨lw_p2, List.forall_mem_cons.mpr ⟨lw_p3, List.forall_mem_cons.mpr ⟨lw_p4, List.forall_mem_cons.mpr ⟨lw_p5, List.forall_mem_cons.mpr ⟨lw_p6, List.forall_mem_cons.mpr ⟨lw_p7, List.forall_mem_cons.mpr ⟨lw_p8, List.forall_mem_cons.mpr ⟨lw_p9, List.forall_mem_cons.mpr ⟨lw_p10, List.forall_mem_cons.mpr ⟨lw_p11, List.forall_mem_cons.mpr ⟨lw_p12, List.forall_mem_cons.mpr ⟨lw_p13, List.forall_mem_cons.mpr ⟨lw_p14, List.forall_mem_cons.mpr ⟨lw_p15, fun _ h => absurd h List.not_mem_nil⟩⟩⟩⟩⟩⟩⟩⟩⟩⟩⟩⟩⟩⟩⟩⟩
theorem lw_p16 : lw_okq (⟨"PointsTo$Parser", "parseVariable", "()I"⟩, 5) := ⟨⟨by decide +kernel, by decide +kernel⟩, List.mem_of_getElem? (i := 32) (by decide +kernel), List.mem_of_getElem? (i := 667) (by decide +kernel), List.mem_of_getElem? (i := 668) (by decide +kernel)⟩
theorem lw_p17 : lw_okq (⟨"PointsTo$Parser", "parseReturn", "(LPointsTo$Statement;)Z"⟩, 5) := ⟨⟨by decide +kernel, by decide +kernel⟩, List.mem_of_getElem? (i := 32) (by decide +kernel), List.mem_of_getElem? (i := 676) (by decide +kernel), List.mem_of_getElem? (i := 677) (by decide +kernel)⟩
theorem lw_p18 : lw_okq (⟨"PointsTo$Parser", "parseSimple", "(LPointsTo$Statement;)Z"⟩, 5) := ⟨⟨by decide +kernel, by decide +kernel⟩, List.mem_of_getElem? (i := 32) (by decide +kernel), List.mem_of_getElem? (i := 680) (by decide +kernel), List.mem_of_getElem? (i := 681) (by decide +kernel)⟩
theorem lw_p19 : lw_okq (⟨"PointsTo$Parser", "parseRight", "(LPointsTo$Statement;)Z"⟩, 5) := ⟨⟨by decide +kernel, by decide +kernel⟩, List.mem_of_getElem? (i := 32) (by decide +kernel), List.mem_of_getElem? (i := 684) (by decide +kernel), List.mem_of_getElem? (i := 685) (by decide +kernel)⟩
theorem lw_p20 : lw_okq (⟨"PointsTo$Parser", "parseNameBehind", "(ILPointsTo$Statement;)Z"⟩, 5) := ⟨⟨by decide +kernel, by decide +kernel⟩, List.mem_of_getElem? (i := 32) (by decide +kernel), List.mem_of_getElem? (i := 692) (by decide +kernel), List.mem_of_getElem? (i := 693) (by decide +kernel)⟩
theorem lw_p21 : lw_okq (⟨"PointsTo$Parser", "parseCall", "(LPointsTo$Statement;)Z"⟩, 5) := ⟨⟨by decide +kernel, by decide +kernel⟩, List.mem_of_getElem? (i := 32) (by decide +kernel), List.mem_of_getElem? (i := 700) (by decide +kernel), List.mem_of_getElem? (i := 701) (by decide +kernel)⟩
theorem lw_p22 : lw_okq (⟨"PointsTo$Parser", "parseStored", "(LPointsTo$Statement;)Z"⟩, 5) := ⟨⟨by decide +kernel, by decide +kernel⟩, List.mem_of_getElem? (i := 32) (by decide +kernel), List.mem_of_getElem? (i := 708) (by decide +kernel), List.mem_of_getElem? (i := 709) (by decide +kernel)⟩
theorem lw_p23 : lw_okq (⟨"PointsTo$Parser", "parseClassEnd", "()Z"⟩, 5) := ⟨⟨by decide +kernel, by decide +kernel⟩, List.mem_of_getElem? (i := 32) (by decide +kernel), List.mem_of_getElem? (i := 712) (by decide +kernel), List.mem_of_getElem? (i := 713) (by decide +kernel)⟩
theorem lw_p24 : lw_okq (⟨"PointsTo$Facts", "clear", "()V"⟩, 7) := ⟨⟨by decide +kernel, by decide +kernel⟩, List.mem_of_getElem? (i := 146) (by decide +kernel), List.mem_of_getElem? (i := 730) (by decide +kernel), List.mem_of_getElem? (i := 731) (by decide +kernel)⟩
theorem lw_p25 : lw_okq (⟨"PointsTo$Facts", "isKnown", "(I)Z"⟩, 7) := ⟨⟨by decide +kernel, by decide +kernel⟩, List.mem_of_getElem? (i := 146) (by decide +kernel), List.mem_of_getElem? (i := 741) (by decide +kernel), List.mem_of_getElem? (i := 742) (by decide +kernel)⟩
theorem lw_p26 : lw_okq (⟨"PointsTo$Facts", "follow", "(LPointsTo$Statement;)V"⟩, 7) := ⟨⟨by decide +kernel, by decide +kernel⟩, List.mem_of_getElem? (i := 146) (by decide +kernel), List.mem_of_getElem? (i := 745) (by decide +kernel), List.mem_of_getElem? (i := 746) (by decide +kernel)⟩
theorem lw_p27 : lw_okq (⟨"PointsTo$Facts", "tell", "([II)V"⟩, 7) := ⟨⟨by decide +kernel, by decide +kernel⟩, List.mem_of_getElem? (i := 146) (by decide +kernel), List.mem_of_getElem? (i := 749) (by decide +kernel), List.mem_of_getElem? (i := 750) (by decide +kernel)⟩
theorem lw_p28 : lw_okq (⟨"PointsTo$Facts", "tellAll", "([I[I)V"⟩, 7) := ⟨⟨by decide +kernel, by decide +kernel⟩, List.mem_of_getElem? (i := 146) (by decide +kernel), List.mem_of_getElem? (i := 753) (by decide +kernel), List.mem_of_getElem? (i := 754) (by decide +kernel)⟩
theorem lw_p29 : lw_okq (⟨"PointsTo$Facts", "followCast", "(LPointsTo$Statement;)V"⟩, 7) := ⟨⟨by decide +kernel, by decide +kernel⟩, List.mem_of_getElem? (i := 146) (by decide +kernel), List.mem_of_getElem? (i := 757) (by decide +kernel), List.mem_of_getElem? (i := 758) (by decide +kernel)⟩
theorem lw_p30 : lw_okq (⟨"PointsTo$Facts", "followLoad", "(LPointsTo$Statement;)V"⟩, 7) := ⟨⟨by decide +kernel, by decide +kernel⟩, List.mem_of_getElem? (i := 146) (by decide +kernel), List.mem_of_getElem? (i := 765) (by decide +kernel), List.mem_of_getElem? (i := 766) (by decide +kernel)⟩
theorem lw_p31 : lw_okq (⟨"PointsTo$Facts", "followStore", "(LPointsTo$Statement;)V"⟩, 7) := ⟨⟨by decide +kernel, by decide +kernel⟩, List.mem_of_getElem? (i := 146) (by decide +kernel), List.mem_of_getElem? (i := 773) (by decide +kernel), List.mem_of_getElem? (i := 774) (by decide +kernel)⟩
def lw_privs_2 : List (MethodName × Nat) := [(⟨"PointsTo$Parser", "parseVariable", "()I"⟩, 5), (⟨"PointsTo$Parser", "parseReturn", "(LPointsTo$Statement;)Z"⟩, 5), (⟨"PointsTo$Parser", "parseSimple", "(LPointsTo$Statement;)Z"⟩, 5), (⟨"PointsTo$Parser", "parseRight", "(LPointsTo$Statement;)Z"⟩, 5), (⟨"PointsTo$Parser", "parseNameBehind", "(ILPointsTo$Statement;)Z"⟩, 5), (⟨"PointsTo$Parser", "parseCall", "(LPointsTo$Statement;)Z"⟩, 5), (⟨"PointsTo$Parser", "parseStored", "(LPointsTo$Statement;)Z"⟩, 5), (⟨"PointsTo$Parser", "parseClassEnd", "()Z"⟩, 5), (⟨"PointsTo$Facts", "clear", "()V"⟩, 7), (⟨"PointsTo$Facts", "isKnown", "(I)Z"⟩, 7), (⟨"PointsTo$Facts", "follow", "(LPointsTo$Statement;)V"⟩, 7), (⟨"PointsTo$Facts", "tell", "([II)V"⟩, 7), (⟨"PointsTo$Facts", "tellAll", "([I[I)V"⟩, 7), (⟨"PointsTo$Facts", "followCast", "(LPointsTo$Statement;)V"⟩, 7), (⟨"PointsTo$Facts", "followLoad", "(LPointsTo$Statement;)V"⟩, 7), (⟨"PointsTo$Facts", "followStore", "(LPointsTo$Statement;)V"⟩, 7)]
theorem lw_r2 : ∀ q ∈ lw_privs_2, lw_okq q := List.forall_mem_cons.mpr ⟨lw_p16, List.forall_mem_cons.mpr ⟨lw_p17, List.forall_mem_cons.mpr ⟨lw_p18, List.forall_mem_cons.mpr ⟨lw_p19, List.forall_mem_cons.mpr ⟨lw_p20, List.forall_mem_cons.mpr ⟨lw_p21, List.forall_mem_cons.mpr ⟨lw_p22, List.forall_mem_cons.mpr ⟨lw_p23, List.forall_mem_cons.mpr ⟨lw_p24, List.forall_mem_cons.mpr ⟨lw_p25, List.forall_mem_cons.mpr ⟨lw_p26, List.forall_mem_cons.mpr ⟨lw_p27, List.forall_mem_cons.mpr ⟨lw_p28, List.forall_mem_cons.mpr ⟨lw_p29, List.forall_mem_cons.mpr ⟨lw_p30, List.forall_mem_cons.mpr ⟨lw_p31, fun _ h => absurd h List.not_mem_nil⟩⟩⟩⟩⟩⟩⟩⟩⟩⟩⟩⟩⟩⟩⟩⟩
theorem lw_p32 : lw_okq (⟨"PointsTo$Facts", "followReceivers", "(LPointsTo$Statement;)V"⟩, 7) := ⟨⟨by decide +kernel, by decide +kernel⟩, List.mem_of_getElem? (i := 146) (by decide +kernel), List.mem_of_getElem? (i := 778) (by decide +kernel), List.mem_of_getElem? (i := 779) (by decide +kernel)⟩
theorem lw_p33 : lw_okq (⟨"PointsTo$Facts", "followValues", "(LPointsTo$Statement;)V"⟩, 7) := ⟨⟨by decide +kernel, by decide +kernel⟩, List.mem_of_getElem? (i := 146) (by decide +kernel), List.mem_of_getElem? (i := 783) (by decide +kernel), List.mem_of_getElem? (i := 784) (by decide +kernel)⟩
theorem lw_p34 : lw_okq (⟨"PointsTo$Facts", "followCallee", "(LPointsTo$Statement;LPointsTo$Method;)V"⟩, 7) := ⟨⟨by decide +kernel, by decide +kernel⟩, List.mem_of_getElem? (i := 146) (by decide +kernel), List.mem_of_getElem? (i := 787) (by decide +kernel), List.mem_of_getElem? (i := 788) (by decide +kernel)⟩
theorem lw_p35 : lw_okq (⟨"PointsTo", "hasVariable", "(I)Z"⟩, 8) := ⟨⟨by decide +kernel, by decide +kernel⟩, List.mem_of_getElem? (i := 24) (by decide +kernel), List.mem_of_getElem? (i := 812) (by decide +kernel), List.mem_of_getElem? (i := 813) (by decide +kernel)⟩
theorem lw_p36 : lw_okq (⟨"PointsTo", "hasSite", "(I)Z"⟩, 8) := ⟨⟨by decide +kernel, by decide +kernel⟩, List.mem_of_getElem? (i := 24) (by decide +kernel), List.mem_of_getElem? (i := 819) (by decide +kernel), List.mem_of_getElem? (i := 820) (by decide +kernel)⟩
theorem lw_p37 : lw_okq (⟨"PointsTo", "hasMethod", "(I)Z"⟩, 8) := ⟨⟨by decide +kernel, by decide +kernel⟩, List.mem_of_getElem? (i := 24) (by decide +kernel), List.mem_of_getElem? (i := 853) (by decide +kernel), List.mem_of_getElem? (i := 854) (by decide +kernel)⟩
theorem lw_p38 : lw_okq (⟨"PointsTo$Machine", "make", "(I)I"⟩, 7) := ⟨⟨by decide +kernel, by decide +kernel⟩, List.mem_of_getElem? (i := 180) (by decide +kernel), List.mem_of_getElem? (i := 909) (by decide +kernel), List.mem_of_getElem? (i := 910) (by decide +kernel)⟩
theorem lw_p39 : lw_okq (⟨"PointsTo$Machine", "openFrame", "(I)[I"⟩, 7) := ⟨⟨by decide +kernel, by decide +kernel⟩, List.mem_of_getElem? (i := 180) (by decide +kernel), List.mem_of_getElem? (i := 915) (by decide +kernel), List.mem_of_getElem? (i := 916) (by decide +kernel)⟩
theorem lw_p40 : lw_okq (⟨"PointsTo$Machine", "give", "([III)V"⟩, 7) := ⟨⟨by decide +kernel, by decide +kernel⟩, List.mem_of_getElem? (i := 180) (by decide +kernel), List.mem_of_getElem? (i := 920) (by decide +kernel), List.mem_of_getElem? (i := 921) (by decide +kernel)⟩
theorem lw_p41 : lw_okq (⟨"PointsTo$Machine", "runBody", "(III)Z"⟩, 7) := ⟨⟨by decide +kernel, by decide +kernel⟩, List.mem_of_getElem? (i := 180) (by decide +kernel), List.mem_of_getElem? (i := 924) (by decide +kernel), List.mem_of_getElem? (i := 925) (by decide +kernel)⟩
theorem lw_p42 : lw_okq (⟨"PointsTo$Machine", "runStatement", "(II)Z"⟩, 7) := ⟨⟨by decide +kernel, by decide +kernel⟩, List.mem_of_getElem? (i := 180) (by decide +kernel), List.mem_of_getElem? (i := 928) (by decide +kernel), List.mem_of_getElem? (i := 929) (by decide +kernel)⟩
theorem lw_p43 : lw_okq (⟨"PointsTo$Machine", "begin", "()V"⟩, 7) := ⟨⟨by decide +kernel, by decide +kernel⟩, List.mem_of_getElem? (i := 180) (by decide +kernel), List.mem_of_getElem? (i := 932) (by decide +kernel), List.mem_of_getElem? (i := 933) (by decide +kernel)⟩
theorem lw_p44 : lw_okq (⟨"PointsTo$Machine", "runWhile", "(II)Z"⟩, 7) := ⟨⟨by decide +kernel, by decide +kernel⟩, List.mem_of_getElem? (i := 180) (by decide +kernel), List.mem_of_getElem? (i := 936) (by decide +kernel), List.mem_of_getElem? (i := 937) (by decide +kernel)⟩
theorem lw_p45 : lw_okq (⟨"PointsTo$Machine", "holder", "(II)I"⟩, 7) := ⟨⟨by decide +kernel, by decide +kernel⟩, List.mem_of_getElem? (i := 180) (by decide +kernel), List.mem_of_getElem? (i := 940) (by decide +kernel), List.mem_of_getElem? (i := 941) (by decide +kernel)⟩
theorem lw_p46 : lw_okq (⟨"PointsTo$Machine", "classOf", "(I)I"⟩, 7) := ⟨⟨by decide +kernel, by decide +kernel⟩, List.mem_of_getElem? (i := 180) (by decide +kernel), List.mem_of_getElem? (i := 944) (by decide +kernel), List.mem_of_getElem? (i := 945) (by decide +kernel)⟩
theorem lw_p47 : lw_okq (⟨"PointsTo$Machine", "runCall", "(LPointsTo$Statement;I)V"⟩, 7) := ⟨⟨by decide +kernel, by decide +kernel⟩, List.mem_of_getElem? (i := 180) (by decide +kernel), List.mem_of_getElem? (i := 966) (by decide +kernel), List.mem_of_getElem? (i := 967) (by decide +kernel)⟩
def lw_privs_3 : List (MethodName × Nat) := [(⟨"PointsTo$Facts", "followReceivers", "(LPointsTo$Statement;)V"⟩, 7), (⟨"PointsTo$Facts", "followValues", "(LPointsTo$Statement;)V"⟩, 7), (⟨"PointsTo$Facts", "followCallee", "(LPointsTo$Statement;LPointsTo$Method;)V"⟩, 7), (⟨"PointsTo", "hasVariable", "(I)Z"⟩, 8), (⟨"PointsTo", "hasSite", "(I)Z"⟩, 8), (⟨"PointsTo", "hasMethod", "(I)Z"⟩, 8), (⟨"PointsTo$Machine", "make", "(I)I"⟩, 7), (⟨"PointsTo$Machine", "openFrame", "(I)[I"⟩, 7), (⟨"PointsTo$Machine", "give", "([III)V"⟩, 7), (⟨"PointsTo$Machine", "runBody", "(III)Z"⟩, 7), (⟨"PointsTo$Machine", "runStatement", "(II)Z"⟩, 7), (⟨"PointsTo$Machine", "begin", "()V"⟩, 7), (⟨"PointsTo$Machine", "runWhile", "(II)Z"⟩, 7), (⟨"PointsTo$Machine", "holder", "(II)I"⟩, 7), (⟨"PointsTo$Machine", "classOf", "(I)I"⟩, 7), (⟨"PointsTo$Machine", "runCall", "(LPointsTo$Statement;I)V"⟩, 7)]
theorem lw_r3 : ∀ q ∈ lw_privs_3, lw_okq q := List.forall_mem_cons.mpr ⟨lw_p32, List.forall_mem_cons.mpr ⟨lw_p33, List.forall_mem_cons.mpr ⟨lw_p34, List.forall_mem_cons.mpr ⟨lw_p35, List.forall_mem_cons.mpr ⟨lw_p36, List.forall_mem_cons.mpr ⟨lw_p37, List.forall_mem_cons.mpr ⟨lw_p38, List.forall_mem_cons.mpr ⟨lw_p39, List.forall_mem_cons.mpr ⟨lw_p40, List.forall_mem_cons.mpr ⟨lw_p41, List.forall_mem_cons.mpr ⟨lw_p42, List.forall_mem_cons.mpr ⟨lw_p43, List.forall_mem_cons.mpr ⟨lw_p44, List.forall_mem_cons.mpr ⟨lw_p45, List.forall_mem_cons.mpr ⟨lw_p46, List.forall_mem_cons.mpr ⟨lw_p47, fun _ h => absurd h List.not_mem_nil⟩⟩⟩⟩⟩⟩⟩⟩⟩⟩⟩⟩⟩⟩⟩⟩
theorem lw_p48 : lw_okq (⟨"PointsTo$Machine", "rightOf", "(LPointsTo$Statement;[I)I"⟩, 7) := ⟨⟨by decide +kernel, by decide +kernel⟩, List.mem_of_getElem? (i := 180) (by decide +kernel), List.mem_of_getElem? (i := 972) (by decide +kernel), List.mem_of_getElem? (i := 973) (by decide +kernel)⟩
theorem lw_p49 : lw_okq (⟨"PointsTo$Machine", "castTo", "(II)I"⟩, 7) := ⟨⟨by decide +kernel, by decide +kernel⟩, List.mem_of_getElem? (i := 180) (by decide +kernel), List.mem_of_getElem? (i := 976) (by decide +kernel), List.mem_of_getElem? (i := 977) (by decide +kernel)⟩
theorem lw_p50 : lw_okq (⟨"PointsToModel", "good", "(ZI)Z"⟩, 58) := ⟨⟨by decide +kernel, by decide +kernel⟩, List.mem_of_getElem? (i := 1010) (by decide +kernel), List.mem_of_getElem? (i := 1203) (by decide +kernel), List.mem_of_getElem? (i := 1204) (by decide +kernel)⟩
theorem lw_p51 : lw_okq (⟨"PointsToModel", "fail", "(I)I"⟩, 58) := ⟨⟨by decide +kernel, by decide +kernel⟩, List.mem_of_getElem? (i := 1010) (by decide +kernel), List.mem_of_getElem? (i := 1207) (by decide +kernel), List.mem_of_getElem? (i := 1208) (by decide +kernel)⟩
theorem lw_p52 : lw_okq (⟨"PointsToModel", "other", "()I"⟩, 58) := ⟨⟨by decide +kernel, by decide +kernel⟩, List.mem_of_getElem? (i := 1010) (by decide +kernel), List.mem_of_getElem? (i := 1219) (by decide +kernel), List.mem_of_getElem? (i := 1220) (by decide +kernel)⟩
theorem lw_p53 : lw_okq (⟨"PointsToModel", "next", "()V"⟩, 58) := ⟨⟨by decide +kernel, by decide +kernel⟩, List.mem_of_getElem? (i := 1010) (by decide +kernel), List.mem_of_getElem? (i := 1223) (by decide +kernel), List.mem_of_getElem? (i := 1224) (by decide +kernel)⟩
theorem lw_p54 : lw_okq (⟨"PointsToModel", "readClass", "()V"⟩, 58) := ⟨⟨by decide +kernel, by decide +kernel⟩, List.mem_of_getElem? (i := 1010) (by decide +kernel), List.mem_of_getElem? (i := 1233) (by decide +kernel), List.mem_of_getElem? (i := 1234) (by decide +kernel)⟩
theorem lw_p55 : lw_okq (⟨"PointsToModel", "readHead", "()V"⟩, 58) := ⟨⟨by decide +kernel, by decide +kernel⟩, List.mem_of_getElem? (i := 1010) (by decide +kernel), List.mem_of_getElem? (i := 1237) (by decide +kernel), List.mem_of_getElem? (i := 1238) (by decide +kernel)⟩
theorem lw_p56 : lw_okq (⟨"PointsToModel", "isClass", "()Z"⟩, 58) := ⟨⟨by decide +kernel, by decide +kernel⟩, List.mem_of_getElem? (i := 1010) (by decide +kernel), List.mem_of_getElem? (i := 1241) (by decide +kernel), List.mem_of_getElem? (i := 1242) (by decide +kernel)⟩
theorem lw_p57 : lw_okq (⟨"PointsToModel", "is", "(I)Z"⟩, 58) := ⟨⟨by decide +kernel, by decide +kernel⟩, List.mem_of_getElem? (i := 1010) (by decide +kernel), List.mem_of_getElem? (i := 1251) (by decide +kernel), List.mem_of_getElem? (i := 1252) (by decide +kernel)⟩
theorem lw_p58 : lw_okq (⟨"PointsToModel", "goOn", "(Z)Z"⟩, 58) := ⟨⟨by decide +kernel, by decide +kernel⟩, List.mem_of_getElem? (i := 1010) (by decide +kernel), List.mem_of_getElem? (i := 1255) (by decide +kernel), List.mem_of_getElem? (i := 1256) (by decide +kernel)⟩
theorem lw_p59 : lw_okq (⟨"PointsToModel", "stop", "()V"⟩, 58) := ⟨⟨by decide +kernel, by decide +kernel⟩, List.mem_of_getElem? (i := 1010) (by decide +kernel), List.mem_of_getElem? (i := 1259) (by decide +kernel), List.mem_of_getElem? (i := 1260) (by decide +kernel)⟩
theorem lw_p60 : lw_okq (⟨"PointsToModel", "isName", "()Z"⟩, 58) := ⟨⟨by decide +kernel, by decide +kernel⟩, List.mem_of_getElem? (i := 1010) (by decide +kernel), List.mem_of_getElem? (i := 1263) (by decide +kernel), List.mem_of_getElem? (i := 1264) (by decide +kernel)⟩
theorem lw_p61 : lw_okq (⟨"PointsToModel", "isField", "()Z"⟩, 58) := ⟨⟨by decide +kernel, by decide +kernel⟩, List.mem_of_getElem? (i := 1010) (by decide +kernel), List.mem_of_getElem? (i := 1267) (by decide +kernel), List.mem_of_getElem? (i := 1268) (by decide +kernel)⟩
theorem lw_p62 : lw_okq (⟨"PointsToModel", "isDef", "()Z"⟩, 58) := ⟨⟨by decide +kernel, by decide +kernel⟩, List.mem_of_getElem? (i := 1010) (by decide +kernel), List.mem_of_getElem? (i := 1271) (by decide +kernel), List.mem_of_getElem? (i := 1272) (by decide +kernel)⟩
theorem lw_p63 : lw_okq (⟨"PointsToModel", "isNew", "()Z"⟩, 58) := ⟨⟨by decide +kernel, by decide +kernel⟩, List.mem_of_getElem? (i := 1010) (by decide +kernel), List.mem_of_getElem? (i := 1275) (by decide +kernel), List.mem_of_getElem? (i := 1276) (by decide +kernel)⟩
def lw_privs_4 : List (MethodName × Nat) := [(⟨"PointsTo$Machine", "rightOf", "(LPointsTo$Statement;[I)I"⟩, 7), (⟨"PointsTo$Machine", "castTo", "(II)I"⟩, 7), (⟨"PointsToModel", "good", "(ZI)Z"⟩, 58), (⟨"PointsToModel", "fail", "(I)I"⟩, 58), (⟨"PointsToModel", "other", "()I"⟩, 58), (⟨"PointsToModel", "next", "()V"⟩, 58), (⟨"PointsToModel", "readClass", "()V"⟩, 58), (⟨"PointsToModel", "readHead", "()V"⟩, 58), (⟨"PointsToModel", "isClass", "()Z"⟩, 58), (⟨"PointsToModel", "is", "(I)Z"⟩, 58), (⟨"PointsToModel", "goOn", "(Z)Z"⟩, 58), (⟨"PointsToModel", "stop", "()V"⟩, 58), (⟨"PointsToModel", "isName", "()Z"⟩, 58), (⟨"PointsToModel", "isField", "()Z"⟩, 58), (⟨"PointsToModel", "isDef", "()Z"⟩, 58), (⟨"PointsToModel", "isNew", "()Z"⟩, 58)]
theorem lw_r4 : ∀ q ∈ lw_privs_4, lw_okq q := List.forall_mem_cons.mpr ⟨lw_p48, List.forall_mem_cons.mpr ⟨lw_p49, List.forall_mem_cons.mpr ⟨lw_p50, List.forall_mem_cons.mpr ⟨lw_p51, List.forall_mem_cons.mpr ⟨lw_p52, List.forall_mem_cons.mpr ⟨lw_p53, List.forall_mem_cons.mpr ⟨lw_p54, List.forall_mem_cons.mpr ⟨lw_p55, List.forall_mem_cons.mpr ⟨lw_p56, List.forall_mem_cons.mpr ⟨lw_p57, List.forall_mem_cons.mpr ⟨lw_p58, List.forall_mem_cons.mpr ⟨lw_p59, List.forall_mem_cons.mpr ⟨lw_p60, List.forall_mem_cons.mpr ⟨lw_p61, List.forall_mem_cons.mpr ⟨lw_p62, List.forall_mem_cons.mpr ⟨lw_p63, fun _ h => absurd h List.not_mem_nil⟩⟩⟩⟩⟩⟩⟩⟩⟩⟩⟩⟩⟩⟩⟩⟩
theorem lw_p64 : lw_okq (⟨"PointsToModel", "isNull", "()Z"⟩, 58) := ⟨⟨by decide +kernel, by decide +kernel⟩, List.mem_of_getElem? (i := 1010) (by decide +kernel), List.mem_of_getElem? (i := 1279) (by decide +kernel), List.mem_of_getElem? (i := 1280) (by decide +kernel)⟩
theorem lw_p65 : lw_okq (⟨"PointsToModel", "isIf", "()Z"⟩, 58) := ⟨⟨by decide +kernel, by decide +kernel⟩, List.mem_of_getElem? (i := 1010) (by decide +kernel), List.mem_of_getElem? (i := 1283) (by decide +kernel), List.mem_of_getElem? (i := 1284) (by decide +kernel)⟩
theorem lw_p66 : lw_okq (⟨"PointsToModel", "isElse", "()Z"⟩, 58) := ⟨⟨by decide +kernel, by decide +kernel⟩, List.mem_of_getElem? (i := 1010) (by decide +kernel), List.mem_of_getElem? (i := 1287) (by decide +kernel), List.mem_of_getElem? (i := 1288) (by decide +kernel)⟩
theorem lw_p67 : lw_okq (⟨"PointsToModel", "isWhile", "()Z"⟩, 58) := ⟨⟨by decide +kernel, by decide +kernel⟩, List.mem_of_getElem? (i := 1010) (by decide +kernel), List.mem_of_getElem? (i := 1291) (by decide +kernel), List.mem_of_getElem? (i := 1292) (by decide +kernel)⟩
theorem lw_p68 : lw_okq (⟨"PointsToModel", "isReturn", "()Z"⟩, 58) := ⟨⟨by decide +kernel, by decide +kernel⟩, List.mem_of_getElem? (i := 1010) (by decide +kernel), List.mem_of_getElem? (i := 1295) (by decide +kernel), List.mem_of_getElem? (i := 1296) (by decide +kernel)⟩
theorem lw_p69 : lw_okq (⟨"PointsToModel", "isThis", "()Z"⟩, 58) := ⟨⟨by decide +kernel, by decide +kernel⟩, List.mem_of_getElem? (i := 1010) (by decide +kernel), List.mem_of_getElem? (i := 1299) (by decide +kernel), List.mem_of_getElem? (i := 1300) (by decide +kernel)⟩
theorem lw_p70 : lw_okq (⟨"PointsToModel", "findClass", "(II)I"⟩, 58) := ⟨⟨by decide +kernel, by decide +kernel⟩, List.mem_of_getElem? (i := 1010) (by decide +kernel), List.mem_of_getElem? (i := 1303) (by decide +kernel), List.mem_of_getElem? (i := 1304) (by decide +kernel)⟩
theorem lw_p71 : lw_okq (⟨"PointsToModel", "isMark", "(I)Z"⟩, 58) := ⟨⟨by decide +kernel, by decide +kernel⟩, List.mem_of_getElem? (i := 1010) (by decide +kernel), List.mem_of_getElem? (i := 1307) (by decide +kernel), List.mem_of_getElem? (i := 1308) (by decide +kernel)⟩
theorem lw_p72 : lw_okq (⟨"PointsToModel", "mark", "(I)Z"⟩, 58) := ⟨⟨by decide +kernel, by decide +kernel⟩, List.mem_of_getElem? (i := 1010) (by decide +kernel), List.mem_of_getElem? (i := 1311) (by decide +kernel), List.mem_of_getElem? (i := 1312) (by decide +kernel)⟩
theorem lw_p73 : lw_okq (⟨"PointsToModel", "readField", "()V"⟩, 58) := ⟨⟨by decide +kernel, by decide +kernel⟩, List.mem_of_getElem? (i := 1010) (by decide +kernel), List.mem_of_getElem? (i := 1315) (by decide +kernel), List.mem_of_getElem? (i := 1316) (by decide +kernel)⟩
theorem lw_p74 : lw_okq (⟨"PointsToModel", "findField", "(II)I"⟩, 58) := ⟨⟨by decide +kernel, by decide +kernel⟩, List.mem_of_getElem? (i := 1010) (by decide +kernel), List.mem_of_getElem? (i := 1319) (by decide +kernel), List.mem_of_getElem? (i := 1320) (by decide +kernel)⟩
theorem lw_p75 : lw_okq (⟨"PointsToModel", "hasField", "(III)Z"⟩, 58) := ⟨⟨by decide +kernel, by decide +kernel⟩, List.mem_of_getElem? (i := 1010) (by decide +kernel), List.mem_of_getElem? (i := 1323) (by decide +kernel), List.mem_of_getElem? (i := 1324) (by decide +kernel)⟩
theorem lw_p76 : lw_okq (⟨"PointsToModel", "readMethodHead", "()V"⟩, 58) := ⟨⟨by decide +kernel, by decide +kernel⟩, List.mem_of_getElem? (i := 1010) (by decide +kernel), List.mem_of_getElem? (i := 1327) (by decide +kernel), List.mem_of_getElem? (i := 1328) (by decide +kernel)⟩
theorem lw_p77 : lw_okq (⟨"PointsToModel", "declared", "(IIIZ)I"⟩, 58) := ⟨⟨by decide +kernel, by decide +kernel⟩, List.mem_of_getElem? (i := 1010) (by decide +kernel), List.mem_of_getElem? (i := 1331) (by decide +kernel), List.mem_of_getElem? (i := 1332) (by decide +kernel)⟩
theorem lw_p78 : lw_okq (⟨"PointsToModel", "addVar", "(I)I"⟩, 58) := ⟨⟨by decide +kernel, by decide +kernel⟩, List.mem_of_getElem? (i := 1010) (by decide +kernel), List.mem_of_getElem? (i := 1335) (by decide +kernel), List.mem_of_getElem? (i := 1336) (by decide +kernel)⟩
theorem lw_p79 : lw_okq (⟨"PointsToModel", "readParameters", "(I)V"⟩, 58) := ⟨⟨by decide +kernel, by decide +kernel⟩, List.mem_of_getElem? (i := 1010) (by decide +kernel), List.mem_of_getElem? (i := 1339) (by decide +kernel), List.mem_of_getElem? (i := 1340) (by decide +kernel)⟩
def lw_privs_5 : List (MethodName × Nat) := [(⟨"PointsToModel", "isNull", "()Z"⟩, 58), (⟨"PointsToModel", "isIf", "()Z"⟩, 58), (⟨"PointsToModel", "isElse", "()Z"⟩, 58), (⟨"PointsToModel", "isWhile", "()Z"⟩, 58), (⟨"PointsToModel", "isReturn", "()Z"⟩, 58), (⟨"PointsToModel", "isThis", "()Z"⟩, 58), (⟨"PointsToModel", "findClass", "(II)I"⟩, 58), (⟨"PointsToModel", "isMark", "(I)Z"⟩, 58), (⟨"PointsToModel", "mark", "(I)Z"⟩, 58), (⟨"PointsToModel", "readField", "()V"⟩, 58), (⟨"PointsToModel", "findField", "(II)I"⟩, 58), (⟨"PointsToModel", "hasField", "(III)Z"⟩, 58), (⟨"PointsToModel", "readMethodHead", "()V"⟩, 58), (⟨"PointsToModel", "declared", "(IIIZ)I"⟩, 58), (⟨"PointsToModel", "addVar", "(I)I"⟩, 58), (⟨"PointsToModel", "readParameters", "(I)V"⟩, 58)]
theorem lw_r5 : ∀ q ∈ lw_privs_5, lw_okq q := List.forall_mem_cons.mpr ⟨lw_p64, List.forall_mem_cons.mpr ⟨lw_p65, List.forall_mem_cons.mpr ⟨lw_p66, List.forall_mem_cons.mpr ⟨lw_p67, List.forall_mem_cons.mpr ⟨lw_p68, List.forall_mem_cons.mpr ⟨lw_p69, List.forall_mem_cons.mpr ⟨lw_p70, List.forall_mem_cons.mpr ⟨lw_p71, List.forall_mem_cons.mpr ⟨lw_p72, List.forall_mem_cons.mpr ⟨lw_p73, List.forall_mem_cons.mpr ⟨lw_p74, List.forall_mem_cons.mpr ⟨lw_p75, List.forall_mem_cons.mpr ⟨lw_p76, List.forall_mem_cons.mpr ⟨lw_p77, List.forall_mem_cons.mpr ⟨lw_p78, List.forall_mem_cons.mpr ⟨lw_p79, fun _ h => absurd h List.not_mem_nil⟩⟩⟩⟩⟩⟩⟩⟩⟩⟩⟩⟩⟩⟩⟩⟩
theorem lw_p80 : lw_okq (⟨"PointsToModel", "readBody", "()V"⟩, 58) := ⟨⟨by decide +kernel, by decide +kernel⟩, List.mem_of_getElem? (i := 1010) (by decide +kernel), List.mem_of_getElem? (i := 1343) (by decide +kernel), List.mem_of_getElem? (i := 1344) (by decide +kernel)⟩
theorem lw_p81 : lw_okq (⟨"PointsToModel", "emit", "(IIII)I"⟩, 58) := ⟨⟨by decide +kernel, by decide +kernel⟩, List.mem_of_getElem? (i := 1010) (by decide +kernel), List.mem_of_getElem? (i := 1347) (by decide +kernel), List.mem_of_getElem? (i := 1348) (by decide +kernel)⟩
theorem lw_p82 : lw_okq (⟨"PointsToModel", "readClosing", "()V"⟩, 58) := ⟨⟨by decide +kernel, by decide +kernel⟩, List.mem_of_getElem? (i := 1010) (by decide +kernel), List.mem_of_getElem? (i := 1351) (by decide +kernel), List.mem_of_getElem? (i := 1352) (by decide +kernel)⟩
theorem lw_p83 : lw_okq (⟨"PointsToModel", "aim", "(I)V"⟩, 58) := ⟨⟨by decide +kernel, by decide +kernel⟩, List.mem_of_getElem? (i := 1010) (by decide +kernel), List.mem_of_getElem? (i := 1355) (by decide +kernel), List.mem_of_getElem? (i := 1356) (by decide +kernel)⟩
theorem lw_p84 : lw_okq (⟨"PointsToModel", "readOpening", "()V"⟩, 58) := ⟨⟨by decide +kernel, by decide +kernel⟩, List.mem_of_getElem? (i := 1010) (by decide +kernel), List.mem_of_getElem? (i := 1359) (by decide +kernel), List.mem_of_getElem? (i := 1360) (by decide +kernel)⟩
theorem lw_p85 : lw_okq (⟨"PointsToModel", "readVar", "()I"⟩, 58) := ⟨⟨by decide +kernel, by decide +kernel⟩, List.mem_of_getElem? (i := 1010) (by decide +kernel), List.mem_of_getElem? (i := 1363) (by decide +kernel), List.mem_of_getElem? (i := 1364) (by decide +kernel)⟩
theorem lw_p86 : lw_okq (⟨"PointsToModel", "readSimple", "()V"⟩, 58) := ⟨⟨by decide +kernel, by decide +kernel⟩, List.mem_of_getElem? (i := 1010) (by decide +kernel), List.mem_of_getElem? (i := 1367) (by decide +kernel), List.mem_of_getElem? (i := 1368) (by decide +kernel)⟩
theorem lw_p87 : lw_okq (⟨"PointsToModel", "readMember", "(I)V"⟩, 58) := ⟨⟨by decide +kernel, by decide +kernel⟩, List.mem_of_getElem? (i := 1010) (by decide +kernel), List.mem_of_getElem? (i := 1371) (by decide +kernel), List.mem_of_getElem? (i := 1372) (by decide +kernel)⟩
theorem lw_p88 : lw_okq (⟨"PointsToModel", "readCall", "(IIII)V"⟩, 58) := ⟨⟨by decide +kernel, by decide +kernel⟩, List.mem_of_getElem? (i := 1010) (by decide +kernel), List.mem_of_getElem? (i := 1375) (by decide +kernel), List.mem_of_getElem? (i := 1376) (by decide +kernel)⟩
theorem lw_p89 : lw_okq (⟨"PointsToModel", "readRight", "(I)V"⟩, 58) := ⟨⟨by decide +kernel, by decide +kernel⟩, List.mem_of_getElem? (i := 1010) (by decide +kernel), List.mem_of_getElem? (i := 1379) (by decide +kernel), List.mem_of_getElem? (i := 1380) (by decide +kernel)⟩
theorem lw_p90 : lw_okq (⟨"PointsToModel", "readNew", "(I)V"⟩, 58) := ⟨⟨by decide +kernel, by decide +kernel⟩, List.mem_of_getElem? (i := 1010) (by decide +kernel), List.mem_of_getElem? (i := 1383) (by decide +kernel), List.mem_of_getElem? (i := 1384) (by decide +kernel)⟩
theorem lw_p91 : lw_okq (⟨"PointsToModel", "ask", "(I)V"⟩, 58) := ⟨⟨by decide +kernel, by decide +kernel⟩, List.mem_of_getElem? (i := 1010) (by decide +kernel), List.mem_of_getElem? (i := 1387) (by decide +kernel), List.mem_of_getElem? (i := 1388) (by decide +kernel)⟩
theorem lw_p92 : lw_okq (⟨"PointsToModel", "readCast", "(I)V"⟩, 58) := ⟨⟨by decide +kernel, by decide +kernel⟩, List.mem_of_getElem? (i := 1010) (by decide +kernel), List.mem_of_getElem? (i := 1391) (by decide +kernel), List.mem_of_getElem? (i := 1392) (by decide +kernel)⟩
theorem lw_p93 : lw_okq (⟨"PointsToModel", "settleNames", "(I)V"⟩, 58) := ⟨⟨by decide +kernel, by decide +kernel⟩, List.mem_of_getElem? (i := 1010) (by decide +kernel), List.mem_of_getElem? (i := 1395) (by decide +kernel), List.mem_of_getElem? (i := 1396) (by decide +kernel)⟩
theorem lw_p94 : lw_okq (⟨"PointsToModel", "analyse", "()V"⟩, 58) := ⟨⟨by decide +kernel, by decide +kernel⟩, List.mem_of_getElem? (i := 1010) (by decide +kernel), List.mem_of_getElem? (i := 1399) (by decide +kernel), List.mem_of_getElem? (i := 1400) (by decide +kernel)⟩
theorem lw_p95 : lw_okq (⟨"PointsToModel", "startMethod", "()I"⟩, 58) := ⟨⟨by decide +kernel, by decide +kernel⟩, List.mem_of_getElem? (i := 1010) (by decide +kernel), List.mem_of_getElem? (i := 1403) (by decide +kernel), List.mem_of_getElem? (i := 1404) (by decide +kernel)⟩
def lw_privs_6 : List (MethodName × Nat) := [(⟨"PointsToModel", "readBody", "()V"⟩, 58), (⟨"PointsToModel", "emit", "(IIII)I"⟩, 58), (⟨"PointsToModel", "readClosing", "()V"⟩, 58), (⟨"PointsToModel", "aim", "(I)V"⟩, 58), (⟨"PointsToModel", "readOpening", "()V"⟩, 58), (⟨"PointsToModel", "readVar", "()I"⟩, 58), (⟨"PointsToModel", "readSimple", "()V"⟩, 58), (⟨"PointsToModel", "readMember", "(I)V"⟩, 58), (⟨"PointsToModel", "readCall", "(IIII)V"⟩, 58), (⟨"PointsToModel", "readRight", "(I)V"⟩, 58), (⟨"PointsToModel", "readNew", "(I)V"⟩, 58), (⟨"PointsToModel", "ask", "(I)V"⟩, 58), (⟨"PointsToModel", "readCast", "(I)V"⟩, 58), (⟨"PointsToModel", "settleNames", "(I)V"⟩, 58), (⟨"PointsToModel", "analyse", "()V"⟩, 58), (⟨"PointsToModel", "startMethod", "()I"⟩, 58)]
theorem lw_r6 : ∀ q ∈ lw_privs_6, lw_okq q := List.forall_mem_cons.mpr ⟨lw_p80, List.forall_mem_cons.mpr ⟨lw_p81, List.forall_mem_cons.mpr ⟨lw_p82, List.forall_mem_cons.mpr ⟨lw_p83, List.forall_mem_cons.mpr ⟨lw_p84, List.forall_mem_cons.mpr ⟨lw_p85, List.forall_mem_cons.mpr ⟨lw_p86, List.forall_mem_cons.mpr ⟨lw_p87, List.forall_mem_cons.mpr ⟨lw_p88, List.forall_mem_cons.mpr ⟨lw_p89, List.forall_mem_cons.mpr ⟨lw_p90, List.forall_mem_cons.mpr ⟨lw_p91, List.forall_mem_cons.mpr ⟨lw_p92, List.forall_mem_cons.mpr ⟨lw_p93, List.forall_mem_cons.mpr ⟨lw_p94, List.forall_mem_cons.mpr ⟨lw_p95, fun _ h => absurd h List.not_mem_nil⟩⟩⟩⟩⟩⟩⟩⟩⟩⟩⟩⟩⟩⟩⟩⟩
theorem lw_p96 : lw_okq (⟨"PointsToModel", "found", "(IIII)I"⟩, 58) := ⟨⟨by decide +kernel, by decide +kernel⟩, List.mem_of_getElem? (i := 1010) (by decide +kernel), List.mem_of_getElem? (i := 1407) (by decide +kernel), List.mem_of_getElem? (i := 1408) (by decide +kernel)⟩
theorem lw_p97 : lw_okq (⟨"PointsToModel", "old", "(I)Z"⟩, 58) := ⟨⟨by decide +kernel, by decide +kernel⟩, List.mem_of_getElem? (i := 1010) (by decide +kernel), List.mem_of_getElem? (i := 1411) (by decide +kernel), List.mem_of_getElem? (i := 1412) (by decide +kernel)⟩
theorem lw_p98 : lw_okq (⟨"PointsToModel", "doOne", "(I)V"⟩, 58) := ⟨⟨by decide +kernel, by decide +kernel⟩, List.mem_of_getElem? (i := 1010) (by decide +kernel), List.mem_of_getElem? (i := 1415) (by decide +kernel), List.mem_of_getElem? (i := 1416) (by decide +kernel)⟩
theorem lw_p99 : lw_okq (⟨"PointsToModel", "addMay", "(II)V"⟩, 58) := ⟨⟨by decide +kernel, by decide +kernel⟩, List.mem_of_getElem? (i := 1010) (by decide +kernel), List.mem_of_getElem? (i := 1419) (by decide +kernel), List.mem_of_getElem? (i := 1420) (by decide +kernel)⟩
theorem lw_p100 : lw_okq (⟨"PointsToModel", "flow", "(II)V"⟩, 58) := ⟨⟨by decide +kernel, by decide +kernel⟩, List.mem_of_getElem? (i := 1010) (by decide +kernel), List.mem_of_getElem? (i := 1423) (by decide +kernel), List.mem_of_getElem? (i := 1424) (by decide +kernel)⟩
theorem lw_p101 : lw_okq (⟨"PointsToModel", "doFields", "(I)V"⟩, 58) := ⟨⟨by decide +kernel, by decide +kernel⟩, List.mem_of_getElem? (i := 1010) (by decide +kernel), List.mem_of_getElem? (i := 1427) (by decide +kernel), List.mem_of_getElem? (i := 1428) (by decide +kernel)⟩
theorem lw_p102 : lw_okq (⟨"PointsToModel", "doCall", "(I)V"⟩, 58) := ⟨⟨by decide +kernel, by decide +kernel⟩, List.mem_of_getElem? (i := 1010) (by decide +kernel), List.mem_of_getElem? (i := 1431) (by decide +kernel), List.mem_of_getElem? (i := 1432) (by decide +kernel)⟩
theorem lw_p103 : lw_okq (⟨"PointsToModel", "below", "(III)Z"⟩, 58) := ⟨⟨by decide +kernel, by decide +kernel⟩, List.mem_of_getElem? (i := 1010) (by decide +kernel), List.mem_of_getElem? (i := 1435) (by decide +kernel), List.mem_of_getElem? (i := 1436) (by decide +kernel)⟩
theorem lw_p104 : lw_okq (⟨"PointsToModel", "isVar", "(I)Z"⟩, 58) := ⟨⟨by decide +kernel, by decide +kernel⟩, List.mem_of_getElem? (i := 1010) (by decide +kernel), List.mem_of_getElem? (i := 1447) (by decide +kernel), List.mem_of_getElem? (i := 1448) (by decide +kernel)⟩
theorem lw_p105 : lw_okq (⟨"PointsToModel", "isSite", "(I)Z"⟩, 58) := ⟨⟨by decide +kernel, by decide +kernel⟩, List.mem_of_getElem? (i := 1010) (by decide +kernel), List.mem_of_getElem? (i := 1451) (by decide +kernel), List.mem_of_getElem? (i := 1452) (by decide +kernel)⟩
theorem lw_p106 : lw_okq (⟨"PointsToModel", "there", "(Z)Z"⟩, 58) := ⟨⟨by decide +kernel, by decide +kernel⟩, List.mem_of_getElem? (i := 1010) (by decide +kernel), List.mem_of_getElem? (i := 1455) (by decide +kernel), List.mem_of_getElem? (i := 1456) (by decide +kernel)⟩
theorem lw_p107 : lw_okq (⟨"PointsToModel", "isMethod", "(I)Z"⟩, 58) := ⟨⟨by decide +kernel, by decide +kernel⟩, List.mem_of_getElem? (i := 1010) (by decide +kernel), List.mem_of_getElem? (i := 1467) (by decide +kernel), List.mem_of_getElem? (i := 1468) (by decide +kernel)⟩
theorem lw_p108 : lw_okq (⟨"PointsToModel", "make", "(I)I"⟩, 58) := ⟨⟨by decide +kernel, by decide +kernel⟩, List.mem_of_getElem? (i := 1010) (by decide +kernel), List.mem_of_getElem? (i := 1491) (by decide +kernel), List.mem_of_getElem? (i := 1492) (by decide +kernel)⟩
theorem lw_p109 : lw_okq (⟨"PointsToModel", "enter", "(IIIII)V"⟩, 58) := ⟨⟨by decide +kernel, by decide +kernel⟩, List.mem_of_getElem? (i := 1010) (by decide +kernel), List.mem_of_getElem? (i := 1495) (by decide +kernel), List.mem_of_getElem? (i := 1496) (by decide +kernel)⟩
theorem lw_p110 : lw_okq (⟨"PointsToModel", "give", "(II)V"⟩, 58) := ⟨⟨by decide +kernel, by decide +kernel⟩, List.mem_of_getElem? (i := 1010) (by decide +kernel), List.mem_of_getElem? (i := 1499) (by decide +kernel), List.mem_of_getElem? (i := 1500) (by decide +kernel)⟩
theorem lw_p111 : lw_okq (⟨"PointsToModel", "step", "()V"⟩, 58) := ⟨⟨by decide +kernel, by decide +kernel⟩, List.mem_of_getElem? (i := 1010) (by decide +kernel), List.mem_of_getElem? (i := 1503) (by decide +kernel), List.mem_of_getElem? (i := 1504) (by decide +kernel)⟩
def lw_privs_7 : List (MethodName × Nat) := [(⟨"PointsToModel", "found", "(IIII)I"⟩, 58), (⟨"PointsToModel", "old", "(I)Z"⟩, 58), (⟨"PointsToModel", "doOne", "(I)V"⟩, 58), (⟨"PointsToModel", "addMay", "(II)V"⟩, 58), (⟨"PointsToModel", "flow", "(II)V"⟩, 58), (⟨"PointsToModel", "doFields", "(I)V"⟩, 58), (⟨"PointsToModel", "doCall", "(I)V"⟩, 58), (⟨"PointsToModel", "below", "(III)Z"⟩, 58), (⟨"PointsToModel", "isVar", "(I)Z"⟩, 58), (⟨"PointsToModel", "isSite", "(I)Z"⟩, 58), (⟨"PointsToModel", "there", "(Z)Z"⟩, 58), (⟨"PointsToModel", "isMethod", "(I)Z"⟩, 58), (⟨"PointsToModel", "make", "(I)I"⟩, 58), (⟨"PointsToModel", "enter", "(IIIII)V"⟩, 58), (⟨"PointsToModel", "give", "(II)V"⟩, 58), (⟨"PointsToModel", "step", "()V"⟩, 58)]
theorem lw_r7 : ∀ q ∈ lw_privs_7, lw_okq q := List.forall_mem_cons.mpr ⟨lw_p96, List.forall_mem_cons.mpr ⟨lw_p97, List.forall_mem_cons.mpr ⟨lw_p98, List.forall_mem_cons.mpr ⟨lw_p99, List.forall_mem_cons.mpr ⟨lw_p100, List.forall_mem_cons.mpr ⟨lw_p101, List.forall_mem_cons.mpr ⟨lw_p102, List.forall_mem_cons.mpr ⟨lw_p103, List.forall_mem_cons.mpr ⟨lw_p104, List.forall_mem_cons.mpr ⟨lw_p105, List.forall_mem_cons.mpr ⟨lw_p106, List.forall_mem_cons.mpr ⟨lw_p107, List.forall_mem_cons.mpr ⟨lw_p108, List.forall_mem_cons.mpr ⟨lw_p109, List.forall_mem_cons.mpr ⟨lw_p110, List.forall_mem_cons.mpr ⟨lw_p111, fun _ h => absurd h List.not_mem_nil⟩⟩⟩⟩⟩⟩⟩⟩⟩⟩⟩⟩⟩⟩⟩⟩
theorem lw_p112 : lw_okq (⟨"PointsToModel", "leave", "(II)V"⟩, 58) := ⟨⟨by decide +kernel, by decide +kernel⟩, List.mem_of_getElem? (i := 1010) (by decide +kernel), List.mem_of_getElem? (i := 1507) (by decide +kernel), List.mem_of_getElem? (i := 1508) (by decide +kernel)⟩
theorem lw_p113 : lw_okq (⟨"PointsToModel", "get", "(I)I"⟩, 58) := ⟨⟨by decide +kernel, by decide +kernel⟩, List.mem_of_getElem? (i := 1010) (by decide +kernel), List.mem_of_getElem? (i := 1511) (by decide +kernel), List.mem_of_getElem? (i := 1512) (by decide +kernel)⟩
theorem lw_p114 : lw_okq (⟨"PointsToModel", "runCall", "(I)V"⟩, 58) := ⟨⟨by decide +kernel, by decide +kernel⟩, List.mem_of_getElem? (i := 1010) (by decide +kernel), List.mem_of_getElem? (i := 1515) (by decide +kernel), List.mem_of_getElem? (i := 1516) (by decide +kernel)⟩
theorem lw_p115 : lw_okq (⟨"PointsToModel", "classOf", "(I)I"⟩, 58) := ⟨⟨by decide +kernel, by decide +kernel⟩, List.mem_of_getElem? (i := 1010) (by decide +kernel), List.mem_of_getElem? (i := 1519) (by decide +kernel), List.mem_of_getElem? (i := 1520) (by decide +kernel)⟩
theorem lw_p116 : lw_okq (⟨"PointsToModel", "runPlain", "(I)V"⟩, 58) := ⟨⟨by decide +kernel, by decide +kernel⟩, List.mem_of_getElem? (i := 1010) (by decide +kernel), List.mem_of_getElem? (i := 1523) (by decide +kernel), List.mem_of_getElem? (i := 1524) (by decide +kernel)⟩
theorem lw_p117 : lw_okq (⟨"PointsToModel", "runField", "(I)V"⟩, 58) := ⟨⟨by decide +kernel, by decide +kernel⟩, List.mem_of_getElem? (i := 1010) (by decide +kernel), List.mem_of_getElem? (i := 1527) (by decide +kernel), List.mem_of_getElem? (i := 1528) (by decide +kernel)⟩
def lw_privs_8 : List (MethodName × Nat) := [(⟨"PointsToModel", "leave", "(II)V"⟩, 58), (⟨"PointsToModel", "get", "(I)I"⟩, 58), (⟨"PointsToModel", "runCall", "(I)V"⟩, 58), (⟨"PointsToModel", "classOf", "(I)I"⟩, 58), (⟨"PointsToModel", "runPlain", "(I)V"⟩, 58), (⟨"PointsToModel", "runField", "(I)V"⟩, 58)]
theorem lw_r8 : ∀ q ∈ lw_privs_8, lw_okq q := List.forall_mem_cons.mpr ⟨lw_p112, List.forall_mem_cons.mpr ⟨lw_p113, List.forall_mem_cons.mpr ⟨lw_p114, List.forall_mem_cons.mpr ⟨lw_p115, List.forall_mem_cons.mpr ⟨lw_p116, List.forall_mem_cons.mpr ⟨lw_p117, fun _ h => absurd h List.not_mem_nil⟩⟩⟩⟩⟩⟩
def lw_privs : List (MethodName × Nat) := lw_privs_1 ++ (lw_privs_2 ++ (lw_privs_3 ++ (lw_privs_4 ++ (lw_privs_5 ++ (lw_privs_6 ++ (lw_privs_7 ++ (lw_privs_8)))))))
def lw_tbl : List Cond := k2_sels lw_privs ++ tables_1
theorem lw_privs_ok : ∀ q ∈ lw_privs, lw_okq q := by
  show ∀ q ∈ lw_privs_1 ++ (lw_privs_2 ++ (lw_privs_3 ++ (lw_privs_4 ++ (lw_privs_5 ++ (lw_privs_6 ++ (lw_privs_7 ++ (lw_privs_8))))))), lw_okq q
  exact List.forall_mem_append.mpr ⟨lw_r1, List.forall_mem_append.mpr ⟨lw_r2, List.forall_mem_append.mpr ⟨lw_r3, List.forall_mem_append.mpr ⟨lw_r4, List.forall_mem_append.mpr ⟨lw_r5, List.forall_mem_append.mpr ⟨lw_r6, List.forall_mem_append.mpr ⟨lw_r7, lw_r8⟩⟩⟩⟩⟩⟩⟩
end
section
/-! THE PURE MACHINE: a small interpreter over the program's own bytecode, its instructions linked ahead ("normal" ones). Its heap is a list of cells; an address is a place in it. The real machine's heap holds the same cells from a base on. -/
/-- a cell: an array (code of its type, length, contents), or an object (number of its class, fields) -/
abbrev xC : Type := (Nat × vp_A) ⊕ (Nat × List Value)
abbrev xH : Type := List xC
abbrev xL : Type := List (Option Value)
/-- a linked instruction: the instruction with its operand linked, its length, two numbers more -/
abbrev xI : Type := Instr × Nat × Nat × Nat
/-- an end: returned, or threw an exception of that class number at that place -/
abbrev xO : Type := Option Value ⊕ (Nat × Nat)
/-- what a step does: it goes on; it ends; it calls (method, arguments, where it goes on, the operands below) -/
abbrev xG : Type := (Nat × xL × List Value × xH) ⊕ ((xO × xH) ⊕ (Nat × List Value × Nat × List Value))
def xgo (pc : Nat) (ls : xL) (st : List Value) (h : xH) : Option xG := some (.inl (pc, ls, st, h))
def xend (r : xO) (h : xH) : Option xG := some (.inr (.inl (r, h)))
/-- the value fits a place of the type with this code: 0 int, 1 boolean, 2 byte, 3 char, 4 short, 5 long, 6 a reference -/
def xfit (t : Nat) (v : Value) : Bool := match v with
  | .int x => t == 0 || (t == 1 && (x == 0 || x == 1)) || (t == 2 && (decide (narrow .byte (.int x) = .int x) && fits .byte (.int x))) || (t == 3 && (decide (narrow .char (.int x) = .int x) && fits .char (.int x)))
  | .long _ => t == 5
  | .null => t == 6
  | .ref _ => t == 6
  | _ => false
/-- is it a reference (the script, a text too; not null)? -/
def xref (v : Value) : Bool := match v with
  | .ref _ => true
  | .retAddr _ => true
  | _ => false
/-- a store into a local of one word -/
def xset (ls : xL) (i : Nat) (v : Value) : Option xL :=
  if i < ls.length then
    match (if i = 0 then none else ls[i - 1]?) with
    | some (some (.long _)) => none
    | some (some (.double _)) => none
    | _ => some (ls.set i (some v))
  else none
/-- the locals at a method's entry -/
def xfl (as : List Value) : xL := as.flatMap (fun v : Value => if v.category = 2 then [some v, none] else [some v])
def xent (as : List Value) (n : Nat) : xL := xfl as ++ List.replicate (n - (xfl as).length) none
def xcmp (c : ClassFile.Cond) (x y : Int32) : Bool := match c with
  | .eq => decide (x = y)
  | .ne => decide (¬ x = y)
  | .lt => decide (x < y)
  | .ge => decide (y ≤ x)
  | .gt => decide (y < x)
  | .le => decide (x ≤ y)
/-- is the index in the array? -/
def xin (i : Int32) (n : Nat) : Bool := decide (¬ (i < 0 ∨ n ≤ i.toNatClampNeg))
/-- the words that operands take -/
def xw (st : List Value) : Nat := (st.map fun v => v.category).sum
section XSTEP
variable (nf : Nat → List Value) (L : Nat) (xs : Nat → Int32) (lit : List (List Int32)) (mc : Nat → Option Nat)
/-- one instruction. nf: a new object's fields; L, xs: the script; lit: the texts, as bytes (the text i is .retAddr (2 * i + 1), its bytes .retAddr (2 * i + 2)); mc: the class whose object the method is called on, if it is not static -/
def xstep (o : xI) (pc : Nat) (ls : xL) (st : List Value) (h : xH) : Option xG := match o with
  | (.iconst v, n, _, _) => xgo (pc + n) ls (.int (Int32.ofInt v) :: st) h
  | (.goto_w v, n, _, _) => xgo (pc + n) ls (.long (Int64.ofInt v) :: st) h
  | (.ldc i, n, _, _) => if i < lit.length then xgo (pc + n) ls (.retAddr (2 * i + 1) :: st) h else none
  | (.getstatic k, n, _, _) => if k = 0 then xgo (pc + n) ls (.int 1 :: st) h else xgo (pc + n) ls (.float 0 :: st) h
  | (.saload, n, _, _) => match st with
    | .retAddr (j + 1) :: st => if j % 2 = 0 ∧ j / 2 < lit.length then xgo (pc + n) ls (.retAddr (j + 2) :: st) h else none
    | _ => none
  | (.sastore, n, _, _) => match st with
    | .retAddr (j + 1) :: st => if j % 2 = 0 ∧ j / 2 < lit.length then xgo (pc + n) ls (.int 0 :: st) h else none
    | _ => none
  | (.baload, n, _, _) => match st with
    | .int i :: .retAddr (j + 1) :: st => if j % 2 = 1 ∧ j / 2 < lit.length ∧ xin i (lit.getD (j / 2) []).length = true then xgo (pc + n) ls (.int ((lit.getD (j / 2) []).getD i.toNatClampNeg 0) :: st) h else none
    | _ => none
  | (.iload i, n, _, _) => match ls[i]? with
    | some (some (.int x)) => xgo (pc + n) ls (.int x :: st) h
    | _ => none
  | (.lload i, n, _, _) => match ls[i]? with
    | some (some (.long x)) => xgo (pc + n) ls (.long x :: st) h
    | _ => none
  | (.aload i, n, _, _) => match ls[i]? with
    | some (some v) => if xref v = true then xgo (pc + n) ls (v :: st) h else none
    | _ => none
  | (.istore i, n, _, _) => match st with
    | .int x :: st => match xset ls i (.int x) with
      | some ls' => xgo (pc + n) ls' st h
      | none => none
    | _ => none
  | (.astore i, n, _, _) => match st with
    | v :: st => if xref v = true then (match xset ls i v with
      | some ls' => xgo (pc + n) ls' st h
      | none => none) else none
    | _ => none
  | (.iinc i k, n, _, _) => match ls[i]? with
    | some (some (.int x)) => match xset ls i (.int (x + Int32.ofInt k)) with
      | some ls' => xgo (pc + n) ls' st h
      | none => none
    | _ => none
  | (.iadd, n, _, _) => match st with
    | .int y :: .int x :: st => xgo (pc + n) ls (.int (x + y) :: st) h
    | _ => none
  | (.isub, n, _, _) => match st with
    | .int y :: .int x :: st => xgo (pc + n) ls (.int (x - y) :: st) h
    | _ => none
  | (.imul, n, _, _) => match st with
    | .int y :: .int x :: st => xgo (pc + n) ls (.int (x * y) :: st) h
    | _ => none
  | (.idiv, n, _, _) => match st with
    | .int y :: .int x :: st => if y = 0 then none else xgo (pc + n) ls (.int (x / y) :: st) h
    | _ => none
  | (.irem, n, _, _) => match st with
    | .int y :: .int x :: st => if y = 0 then none else xgo (pc + n) ls (.int (x - x / y * y) :: st) h
    | _ => none
  | (.iand, n, _, _) => match st with
    | .int y :: .int x :: st => xgo (pc + n) ls (.int (x &&& y) :: st) h
    | _ => none
  | (.ior, n, _, _) => match st with
    | .int y :: .int x :: st => xgo (pc + n) ls (.int (x ||| y) :: st) h
    | _ => none
  | (.ishl, n, _, _) => match st with
    | .int y :: .int x :: st => xgo (pc + n) ls (.int (x <<< (y &&& 31)) :: st) h
    | _ => none
  | (.ishr, n, _, _) => match st with
    | .int y :: .int x :: st => xgo (pc + n) ls (.int (x >>> (y &&& 31)) :: st) h
    | _ => none
  | (.ineg, n, _, _) => match st with
    | .int x :: st => xgo (pc + n) ls (.int (-x) :: st) h
    | _ => none
  | (.land, n, _, _) => match st with
    | .long y :: .long x :: st => xgo (pc + n) ls (.long (x &&& y) :: st) h
    | _ => none
  | (.lor, n, _, _) => match st with
    | .long y :: .long x :: st => xgo (pc + n) ls (.long (x ||| y) :: st) h
    | _ => none
  | (.lushr, n, _, _) => match st with
    | .int y :: .long x :: st => xgo (pc + n) ls (.long (x.toUInt64 >>> (y.toInt64.toUInt64 &&& Int64.toUInt64 63)).toInt64 :: st) h
    | _ => none
  | (.lshl, n, _, _) => match st with
    | .int y :: .long x :: st => xgo (pc + n) ls (.long (x <<< (y.toInt64 &&& 63)) :: st) h
    | _ => none
  | (.lshr, n, _, _) => match st with
    | .int y :: .long x :: st => xgo (pc + n) ls (.long (x >>> (y.toInt64 &&& 63)) :: st) h
    | _ => none
  | (.lcmp, n, _, _) => match st with
    | .long y :: .long x :: st => xgo (pc + n) ls (.int (lg_cmp x y) :: st) h
    | _ => none
  | (.i2l, n, _, _) => match st with
    | .int x :: st => xgo (pc + n) ls (.long x.toInt64 :: st) h
    | _ => none
  | (.l2i, n, _, _) => match st with
    | .long x :: st => xgo (pc + n) ls (.int x.toInt32 :: st) h
    | _ => none
  | (.i2c, n, _, _) => match st with
    | .int x :: st => xgo (pc + n) ls (.int (x.toUInt32 % 65536).toInt32 :: st) h
    | _ => none
  | (.dup, n, _, _) => match st with
    | v :: st => if v.category = 1 then xgo (pc + n) ls (v :: v :: st) h else none
    | _ => none
  | (.dup_x1, n, _, _) => match st with
    | v :: w :: st => if v.category = 1 ∧ w.category = 1 then xgo (pc + n) ls (v :: w :: v :: st) h else none
    | _ => none
  | (.dup2, n, _, _) => match st with
    | v :: w :: st => if v.category = 1 ∧ w.category = 1 then xgo (pc + n) ls (v :: w :: v :: w :: st) h else none
    | _ => none
  | (.pop, n, _, _) => match st with
    | v :: st => if v.category = 1 then xgo (pc + n) ls st h else none
    | _ => none
  | (.goto t, _, _, _) => xgo t.toNat ls st h
  | (.ifCond c t, n, _, _) => match st with
    | .int x :: st => if xcmp c x 0 = true then xgo t.toNat ls st h else xgo (pc + n) ls st h
    | _ => none
  | (.if_icmp c t, n, _, _) => match st with
    | .int y :: .int x :: st => if xcmp c x y = true then xgo t.toNat ls st h else xgo (pc + n) ls st h
    | _ => none
  | (.tableswitch d lo hi offs, _, _, _) => match st with
    | .int x :: st => if x.toInt < lo ∨ hi < x.toInt then xgo ((pc : Int) + d).toNat ls st h else (match offs[(x.toInt - lo).toNat]? with
      | some o => xgo ((pc : Int) + o).toNat ls st h
      | none => none)
    | _ => none
  | (.lookupswitch d ps, _, _, _) => match st with
    | .int x :: st => xgo ((pc : Int) + Op.lookupswitch.offset ps.toList d x.toInt).toNat ls st h
    | _ => none
  | (.getfield k, n, ci, _) => match st with
    | .ref a :: st => match h[a]? with
      | some (.inr (c, fs)) => if c = ci then (match fs[k]? with
        | some v => xgo (pc + n) ls (v :: st) h
        | none => none) else none
      | _ => none
    | _ => none
  | (.putfield k, n, ci, t) => match st with
    | v :: .ref a :: st => match h[a]? with
      | some (.inr (c, fs)) => if c = ci ∧ k < fs.length ∧ xfit t v = true then xgo (pc + n) ls st (h.set a (.inr (c, fs.set k v))) else none
      | _ => none
    | _ => none
  | (.iaload, n, t, _) => match st with
    | .int i :: .ref a :: st => match h[a]? with
      | some (.inl (t', m, .inl f)) => if t' = t ∧ xin i m = true then xgo (pc + n) ls (.int (f i.toNatClampNeg) :: st) h else none
      | _ => none
    | .int i :: .retAddr 0 :: st => if t = 0 ∧ xin i L = true then xgo (pc + n) ls (.int (xs i.toNatClampNeg) :: st) h else none
    | _ => none
  | (.iastore, n, t, _) => match st with
    | .int x :: .int i :: .ref a :: st => match h[a]? with
      | some (.inl (t', m, .inl f)) => if t' = t ∧ xin i m = true then xgo (pc + n) ls st (h.set a (.inl (t', m, .inl (upd f i.toNatClampNeg (if t = 3 then vp_nar .char x else if t = 1 then vp_nar .boolean x else if t = 2 then vp_nar .byte x else x))))) else none
      | _ => none
    | _ => none
  | (.laload, n, _, _) => match st with
    | .int i :: .ref a :: st => match h[a]? with
      | some (.inl (t', m, .inr (.inl f))) => if t' = 5 ∧ xin i m = true then xgo (pc + n) ls (.long (f i.toNatClampNeg) :: st) h else none
      | _ => none
    | _ => none
  | (.lastore, n, _, _) => match st with
    | .long x :: .int i :: .ref a :: st => match h[a]? with
      | some (.inl (t', m, .inr (.inl f))) => if t' = 5 ∧ xin i m = true then xgo (pc + n) ls st (h.set a (.inl (t', m, .inr (.inl (vp_updL f i.toNatClampNeg x))))) else none
      | _ => none
    | _ => none
  | (.aaload, n, _, _) => match st with
    | .int i :: .ref a :: st => match h[a]? with
      | some (.inl (t', m, .inr (.inr (.inr (.inr f))))) => if 6 ≤ t' ∧ t' < 12 ∧ xin i m = true then xgo (pc + n) ls (va_rf (f i.toNatClampNeg) :: st) h else none
      | _ => none
    | _ => none
  | (.aastore, n, t, ci) => match st with
    | .ref v :: .int i :: .ref a :: st => match h[a]?, h[v]? with
      | some (.inl (t', m, .inr (.inr (.inr (.inr f))))), some (.inr (c, _)) => if t' = t ∧ 6 ≤ t ∧ t < 12 ∧ c = ci ∧ xin i m = true then xgo (pc + n) ls st (h.set a (.inl (t', m, .inr (.inr (.inr (.inr (va_up f i.toNatClampNeg (some v)))))))) else none
      | _, _ => none
    | _ => none
  | (.arraylength, n, _, _) => match st with
    | .ref a :: st => match h[a]? with
      | some (.inl (_, m, _)) => xgo (pc + n) ls (.int (Int32.ofNat m) :: st) h
      | _ => none
    | .retAddr 0 :: st => xgo (pc + n) ls (.int (Int32.ofNat L) :: st) h
    | .retAddr (j + 1) :: st => if j % 2 = 1 ∧ j / 2 < lit.length then xgo (pc + n) ls (.int (Int32.ofNat (lit.getD (j / 2) []).length) :: st) h else none
    | _ => none
  | (.new ci, n, _, _) => xgo (pc + n) ls (.ref h.length :: st) (h ++ [.inr (ci, nf ci)])
  | (.newarray _, n, t, _) => match st with
    | .int k :: st => if k < 0 ∨ 100000 < k.toNatClampNeg then none else
      if t = 5 then xgo (pc + n) ls (.ref h.length :: st) (h ++ [.inl (t, k.toNatClampNeg, .inr (.inl (fun _ => 0)))])
      else if t < 4 then xgo (pc + n) ls (.ref h.length :: st) (h ++ [.inl (t, k.toNatClampNeg, .inl (fun _ => 0))]) else none
    | _ => none
  | (.anewarray t, n, _, _) => match st with
    | .int k :: st => if k < 0 ∨ 100000 < k.toNatClampNeg then none else xgo (pc + n) ls (.ref h.length :: st) (h ++ [.inl (t, k.toNatClampNeg, .inr (.inr (.inr (.inr (fun _ => none)))))])
    | _ => none
  | (.multianewarray t t', n, _, _) => match st with
    | .int k' :: .int k :: st => if k < 0 ∨ 1000 < k.toNatClampNeg ∨ k' < 0 ∨ 1000 < k'.toNatClampNeg then none else
      xgo (pc + n) ls (.ref h.length :: st) (h ++ (.inl (t, k.toNatClampNeg, .inr (.inr (.inr (.inr (fun i => if i < k.toNatClampNeg then some (h.length + 1 + i) else none))))) :: List.replicate k.toNatClampNeg (.inl (t', k'.toNatClampNeg, .inl (fun _ => 0)))))
    | _ => none
  | (.invokespecial _, n, _, _) => match st with
    | .ref _ :: st => if xw st ≤ 8 then xgo (pc + n) ls st h else none
    | _ => none
  | (.invokeinterface j _, n, k, _) => if k ≤ st.length ∧ xw (st.drop k) ≤ 8 then (match mc j with
      | none => some (.inr (.inr (j, (st.take k).reverse, pc + n, st.drop k)))
      | some ci => match (st.take k).reverse with
        | .ref a :: as => match h[a]? with
          | some (.inr (c, _)) => if c = ci then some (.inr (.inr (j, .ref a :: as, pc + n, st.drop k))) else none
          | _ => none
        | .retAddr (q + 1) :: as => if ci = 1000 ∧ q % 2 = 0 ∧ q / 2 < lit.length then some (.inr (.inr (j, .retAddr (q + 1) :: as, pc + n, st.drop k))) else none
        | _ => none) else none
  | (.athrow, _, e, _) => if xw st ≤ 8 then xend (.inr (e, h.length)) (h ++ [.inr (e, List.replicate 6 .null)]) else none
  | (.ireturn, _, t, _) => match st with
    | [.int x] => if xfit t (.int x) = true then xend (.inl (some (.int x))) h else none
    | _ => none
  | (.areturn, _, _, _) => match st with
    | [v] => if xref v = true then xend (.inl (some v)) h else none
    | _ => none
  | (.return_, _, _, _) => match st with
    | [] => xend (.inl none) h
    | _ => none
  | _ => none
end XSTEP
/-- a run: P the linked code; mx the locals of a method; hd where a method goes on when a call at that place throws an exception of that class (some none: no handler covers the place); d frames may be laid more -/
def xrun (stp : xI → Nat → xL → List Value → xH → Option xG) (P : Nat → Nat → Option xI) (mx : Nat → Nat) (hd : Nat → Nat → Nat → Option (Option Nat)) : Nat → Nat → Nat → Nat → xL → List Value → xH → Option (xO × xH)
  | 0, _, _, _, _, _, _ => none
  | n + 1, d, i, pc, ls, st, h => match P i pc with
    | none => none
    | some o => match stp o pc ls st h with
      | none => none
      | some (.inl (pc', ls', st', h')) => xrun stp P mx hd n d i pc' ls' st' h'
      | some (.inr (.inl r)) => some r
      | some (.inr (.inr (j, as, pc', st'))) => match d with
        | 0 => none
        | d + 1 => if (xent as (mx j)).length = mx j then (match xrun stp P mx hd n d j 0 (xent as (mx j)) [] h with
          | none => none
          | some (.inl v, h') => xrun stp P mx hd n (d + 1) i pc' ls (v.toList ++ st') h'
          | some (.inr (k, a), h') => match hd i pc k with
            | some (some q) => xrun stp P mx hd n (d + 1) i q ls [.ref a] h'
            | some none => some (.inr (k, a), h')
            | none => none) else none
end
section
/-! THE REAL MACHINE'S HEAP AND THE PURE MACHINE'S: the cell k lies at base + k -/
/-- a pure value in the real machine: b: the script; ta: the texts, and one reference or null that is only handed on -/
def xv (b base : Nat) (ta : (Nat → Nat) × Option Nat) (v : Value) : Value := match v with
  | .ref k => .ref (base + k)
  | .retAddr 0 => .ref b
  | .retAddr (k + 1) => .ref (ta.1 k)
  | .float _ => va_rf ta.2
  | v => v
theorem xv_cat1 (b base : Nat) (ta : (Nat → Nat) × Option Nat) {v : Value} (h : v.category = 1) : (xv b base ta v).category = 1 := by
  cases v with
  | retAddr k => cases k <;> rfl
  | float x => show (va_rf ta.2).category = 1; cases ta.2 <;> rfl
  | long x => cases h
  | double x => cases h
  | _ => rfl
theorem xv_cat' (b base : Nat) (ta : (Nat → Nat) × Option Nat) (v : Value) : (xv b base ta v).category = v.category := by
  cases v with
  | retAddr k => cases k <;> rfl
  | float x => show (va_rf ta.2).category = 1; cases ta.2 <;> rfl
  | _ => rfl
theorem xv_ref {b base : Nat} {ta : (Nat → Nat) × Option Nat} {v : Value} (h : xref v = true) : ∃ a, xv b base ta v = .ref a := by
  cases v with
  | ref k => exact ⟨_, rfl⟩
  | retAddr k => cases k <;> exact ⟨_, rfl⟩
  | _ => cases h
/-- a pure cell in the real machine: dA: the class of arrays of a type's code -/
def xtr (b base : Nat) (ta : (Nat → Nat) × Option Nat) (dA : Nat → ClassId) (c : xC) : va_E := match c with
  | .inl (t, n, .inr (.inr (.inr (.inr f)))) => .inl (dA t, n, .inr (.inr (.inr (.inr (fun i => (f i).map (base + ·))))))
  | .inl (t, n, f) => .inl (dA t, n, f)
  | .inr (ci, fs) => .inr (ci, fs.map (xv b base ta))
def xws (b base : Nat) (ta : (Nat → Nat) × Option Nat) (dA : Nat → ClassId) (h : xH) : va_W := h.mapIdx (fun k c => (base + k, xtr b base ta dA c))
section XW
variable {b base : Nat} {ta : (Nat → Nat) × Option Nat} {dA : Nat → ClassId}
theorem xws_len (h : xH) : (xws b base ta dA h).length = h.length := by simp [xws]
theorem xws_at (h : xH) (k : Nat) : (xws b base ta dA h)[k]? = (h[k]?).map (fun c => (base + k, xtr b base ta dA c)) := by simp [xws]
theorem xws_get {h : xH} {k : Nat} {c : xC} (hk : h[k]? = some c) : (xws b base ta dA h)[k]? = some (base + k, xtr b base ta dA c) := by rw [xws_at, hk]; rfl
theorem xws_inv {h : xH} {k : Nat} {q : Nat × va_E} (hk : (xws b base ta dA h)[k]? = some q) : ∃ c, h[k]? = some c ∧ q = (base + k, xtr b base ta dA c) := by
  rw [xws_at] at hk
  cases hc : h[k]? with
  | none => rw [hc] at hk; cases hk
  | some c => rw [hc] at hk; exact ⟨c, rfl, (Option.some.inj hk).symm⟩
theorem xws_set (h : xH) (k : Nat) (c : xC) : xws b base ta dA (h.set k c) = (xws b base ta dA h).set k (base + k, xtr b base ta dA c) := by
  apply List.ext_getElem?
  intro j
  rw [xws_at, List.getElem?_set, List.getElem?_set, xws_len, xws_at]
  by_cases hj : k = j
  · subst hj
    by_cases hl : k < h.length <;> simp [hl]
  · simp [hj]
theorem xws_app (h : xH) (c : xC) : xws b base ta dA (h ++ [c]) = xws b base ta dA h ++ [(base + h.length, xtr b base ta dA c)] := by
  simp [xws, List.mapIdx_append]
theorem xws_D (h : xH) : va_D (fun q => base ≤ q) (xws b base ta dA h) := by
  refine ⟨fun i j p q hi hj e => ?_, fun k q hk => ?_⟩
  · obtain ⟨_, -, rfl⟩ := xws_inv hi
    obtain ⟨_, -, rfl⟩ := xws_inv hj
    have : base + i = base + j := e
    omega
  · obtain ⟨_, -, rfl⟩ := xws_inv hk
    exact Nat.le_add_right _ _
end XW
/-- the locals -/
def xls (b base : Nat) (ta : (Nat → Nat) × Option Nat) (ls : xL) (rl : Array Slot) : Prop := rl.size = ls.length ∧ lv_wf rl ∧ ∀ (i : Nat) (v : Value), ls[i]? = some (some v) → rl[i]? = some (.val (xv b base ta v))
/-- the listed pairs of the locals -/
def xlp (b base : Nat) (ta : (Nat → Nat) × Option Nat) (ls : xL) : List (Nat × Value) := (List.range ls.length).filterMap (fun i => match ls[i]? with
  | some (some v) => some (i, xv b base ta v)
  | _ => none)
theorem xlp_mem {b base : Nat} {ta : (Nat → Nat) × Option Nat} {ls : xL} {q : Nat × Value} : q ∈ xlp b base ta ls ↔ ∃ v, ls[q.1]? = some (some v) ∧ q.2 = xv b base ta v := by
  unfold xlp
  rw [List.mem_filterMap]
  constructor
  · rintro ⟨i, -, h⟩
    split at h
    · rename_i v hv
      cases h
      exact ⟨v, hv, rfl⟩
    · cases h
  · rintro ⟨v, hv, h⟩
    refine ⟨q.1, List.mem_range.mpr (List.getElem?_eq_some_iff.mp hv).1, ?_⟩
    rw [hv]
    show some (q.1, xv b base ta v) = some q
    rw [← h]
theorem xls_has {b base : Nat} {ta : (Nat → Nat) × Option Nat} {ls : xL} {rl : Array Slot} (h : xls b base ta ls rl) : lv_has rl ls.length (xlp b base ta ls) :=
  ⟨h.1, h.2.1, fun q hq => by
    obtain ⟨v, h1, h2⟩ := xlp_mem.mp hq
    rw [h2]
    exact h.2.2 _ _ h1⟩
theorem xset_spec {ls ls' : xL} {i : Nat} {v : Value} (h : xset ls i v = some ls') : i < ls.length ∧ ls' = ls.set i (some v) ∧ ∀ (j : Nat) (w : Value), j + 1 = i → ls[j]? = some (some w) → ¬ w.category = 2 := by
  unfold xset at h
  by_cases hi : i < ls.length
  · rw [if_pos hi] at h
    split at h
    · cases h
    · cases h
    · rename_i h1 h2
      cases h
      refine ⟨hi, rfl, fun j w hj hw => ?_⟩
      subst hj
      have e : (if j + 1 = 0 then none else ls[j + 1 - 1]?) = some (some w) := by
        rw [if_neg (Nat.succ_ne_zero j), Nat.add_sub_cancel]; exact hw
      cases w with
      | long x => exact absurd e (h1 x)
      | double x => exact absurd e (h2 x)
      | _ => intro q; cases q
  · rw [if_neg hi] at h
    cases h
/-- behind a store of one word -/
theorem xls_put {b base : Nat} {ta : (Nat → Nat) × Option Nat} {ls ls' : xL} {i : Nat} {v : Value} {rl : Array Slot} (hs : xset ls i v = some ls') (h : lv_has rl ls.length ((i, xv b base ta v) :: (xlp b base ta ls).filter (fun q => !(q.1 == i) && !(q.1 + 1 == i && q.2.category == 2)))) : xls b base ta ls' rl := by
  obtain ⟨hi, rfl, hj⟩ := xset_spec hs
  refine ⟨by rw [h.1, List.length_set], h.2.1, fun k w hk => ?_⟩
  rw [List.getElem?_set] at hk
  by_cases e : i = k
  · subst e
    rw [if_pos rfl, if_pos hi] at hk
    cases hk
    exact h.2.2 (i, xv b base ta v) List.mem_cons_self
  · rw [if_neg e] at hk
    refine h.2.2 (k, xv b base ta w) (List.mem_cons_of_mem _ (List.mem_filter.mpr ⟨xlp_mem.mpr ⟨w, hk, rfl⟩, ?_⟩))
    have e1 : (k == i) = false := by simp; exact fun q => e q.symm
    have e2 : (k + 1 == i && (xv b base ta w).category == 2) = false := by
      by_cases q : k + 1 = i
      · have := hj k w q hk
        rw [xv_cat']
        simp [this]
      · simp [q]
    simp only [e1, e2, Bool.not_false, Bool.and_self]
end
section
/-! ONE INSTRUCTION: what the pure machine does, the real one does -/
/-- the slots that a cell takes; that a heap's cells take -/
def xcz (c : xC) : Nat := match c with
  | .inl (_, n, _) => n
  | .inr (_, fs) => fs.length
def xsz (h : xH) : Nat := (h.map xcz).sum
theorem xsz_app (h : xH) (c : xC) : xsz (h ++ [c]) = xsz h + xcz c := by simp [xsz]
theorem xsz_set {h : xH} {k : Nat} {c c' : xC} (hk : h[k]? = some c) (e : xcz c' = xcz c) : xsz (h.set k c') = xsz h := by
  unfold xsz
  rw [List.map_set, e]
  congr 1
  apply List.ext_getElem?
  intro j
  rw [List.getElem?_set]
  by_cases hj : k = j
  · subst hj
    have hl : k < h.length := (List.getElem?_eq_some_iff.mp hk).1
    have hg : h[k] = c := (List.getElem?_eq_some_iff.mp hk).2
    simp [hl, hg]
  · simp [hj]
/-- the linked instruction o stands for the instruction raw at pc in a method of the class own: Ts: the tables' words; cl: the classes -/
def xok (Ts : List Cond) (cl : List vw_C) (own : String) (tf : Nat → Nat → Nat) (nf : Nat → List Value) (ty : Nat → FieldType) (ldcs : List (String × Nat × String × Nat)) (ini : Bool) (pc : Nat) (raw : Instr) (o : xI) : Prop := match o with
  | (.iconst v, n, _, _) => (raw = .iconst v ∧ n = 1) ∨ (raw = .bipush v ∧ n = 2 ∧ (Int8.ofInt v).toInt32 = Int32.ofInt v) ∨ (raw = .sipush v ∧ n = 3 ∧ (Int16.ofInt v).toInt32 = Int32.ofInt v)
  | (.goto_w v, n, k, _) => raw = .ldc2_w k ∧ n = 3 ∧ Cond.constantLong own k (Int64.ofInt v) ∈ Ts
  | (.ldc i, n, ix, _) => raw = .ldc ix ∧ n = 2 ∧ ∃ q ∈ ldcs, q.1 = own ∧ q.2.1 = ix ∧ q.2.2.2 = i
  | (.getstatic k, n, ix, _) => raw = .getstatic ix ∧ n = 3 ∧ ((k = 0 ∧ Cond.fieldLink own ix "java/lang/String" "COMPACT_STRINGS" "Z" ∈ Ts) ∨ (k = 1 ∧ Cond.fieldLink own ix "jdk/internal/util/Preconditions" "SIOOBE_FORMATTER" "Ljava/util/function/BiFunction;" ∈ Ts))
  | (.saload, n, ix, _) => raw = .getfield ix ∧ n = 3 ∧ Cond.fieldLink own ix "java/lang/String" "value" "[B" ∈ Ts
  | (.sastore, n, ix, _) => raw = .getfield ix ∧ n = 3 ∧ Cond.fieldLink own ix "java/lang/String" "coder" "B" ∈ Ts
  | (.iload i, n, _, _) => (raw = .iload i ∧ n = 2) ∨ (n = 1 ∧ ∃ k : Fin 4, raw = .iload_n k ∧ (k : Nat) = i)
  | (.lload i, n, _, _) => (raw = .lload i ∧ n = 2) ∨ (n = 1 ∧ ∃ k : Fin 4, raw = .lload_n k ∧ (k : Nat) = i)
  | (.aload i, n, _, _) => (raw = .aload i ∧ n = 2) ∨ (n = 1 ∧ ∃ k : Fin 4, raw = .aload_n k ∧ (k : Nat) = i)
  | (.istore i, n, _, _) => (raw = .istore i ∧ n = 2) ∨ (n = 1 ∧ ∃ k : Fin 4, raw = .istore_n k ∧ (k : Nat) = i)
  | (.astore i, n, _, _) => (raw = .astore i ∧ n = 2) ∨ (n = 1 ∧ ∃ k : Fin 4, raw = .astore_n k ∧ (k : Nat) = i)
  | (.iinc i k, n, _, _) => raw = .iinc i k ∧ n = 3
  | (.goto t, n, _, _) => raw = .goto (t - pc) ∧ n = 3 ∧ 0 ≤ t
  | (.ifCond cd t, n, _, _) => raw = .ifCond cd (t - pc) ∧ n = 3 ∧ 0 ≤ t
  | (.if_icmp cd t, n, _, _) => raw = .if_icmp cd (t - pc) ∧ n = 3 ∧ 0 ≤ t
  | (.tableswitch d lo hi offs, n, _, _) => raw = .tableswitch d lo hi offs ∧ 0 ≤ (pc : Int) + d ∧ ∀ q ∈ offs.toList, 0 ≤ (pc : Int) + q
  | (.lookupswitch d ps, n, _, _) => raw = .lookupswitch d ps ∧ (ps.toList.zip (ps.toList.drop 1)).all (fun (a, next) => a.1 < next.1) = true ∧ 0 ≤ (pc : Int) + d ∧ ∀ q ∈ ps.toList, 0 ≤ (pc : Int) + q.2
  | (.getfield k, n, ci, ix) => raw = .getfield ix ∧ n = 3 ∧ ∃ r ∈ (cl[ci]?).toList, k < r.2.2 ∧ Cond.fieldLink own ix (r.2.1 k).1 (r.2.1 k).2.1 (r.2.1 k).2.2.1 ∈ Ts
  | (.putfield k, n, ci, t) => n = 3 ∧ t = tf ci k ∧ ∃ ix ∈ (match raw with | .putfield ix => [ix] | _ => []), ∃ r ∈ (cl[ci]?).toList, k < r.2.2 ∧ Cond.fieldLink own ix (r.2.1 k).1 (r.2.1 k).2.1 (r.2.1 k).2.2.1 ∈ Ts ∧ ((r.2.1 k).2.2.2 = false ∨ ((r.2.1 k).2.2.2 = true ∧ ini = true ∧ (r.2.1 k).1 = own))
  | (.new ci, n, ix, _) => raw = .new ix ∧ n = 3 ∧ ∃ r ∈ (cl[ci]?).toList, Cond.classLink own ix r.1 ∈ Ts ∧ Cond.instantiable r.1 r.2.2 ∈ Ts ∧ Cond.initialized r.1 ∈ Ts ∧ (nf ci).length = r.2.2 ∧ (∀ j, j < r.2.2 → tf ci j ≠ 99) ∧ ∀ j, j < r.2.2 → (parseFieldDescriptor (r.2.1 j).2.2.1).map defaultValue = some ((nf ci).getD j .null)
  | (.newarray at_, n, t, _) => raw = .newarray at_ ∧ n = 2 ∧ t < 6 ∧ ty t = Op.newarray.typeOf at_ ∧ Cond.arrayClass (Op.newarray.typeOf at_) ∈ Ts
  | (.anewarray t, n, ix, _) => raw = .anewarray ix ∧ n = 3 ∧ (match ty t with | .object C => Cond.classLink own ix C ∈ Ts ∧ Cond.arrayOver (.object C) ∈ Ts | _ => False)
  | (.multianewarray t t', n, ix, _) => raw = .multianewarray ix 2 ∧ n = 4 ∧ t' = 0 ∧ ty t = .array .int ∧ Cond.classLink own ix ("[" ++ (FieldType.array .int).toString) ∈ Ts ∧ Cond.arrayOver (.array .int) ∈ Ts ∧ Cond.arrayClass .int ∈ Ts
  | (.iaload, n, t, _) => n = 1 ∧ ((t = 0 ∧ raw = .iaload) ∨ (t = 3 ∧ raw = .caload) ∨ (t = 1 ∧ raw = .baload) ∨ (t = 2 ∧ raw = .baload))
  | (.iastore, n, t, _) => n = 1 ∧ ((t = 0 ∧ raw = .iastore) ∨ (t = 3 ∧ raw = .castore) ∨ (t = 1 ∧ raw = .bastore) ∨ (t = 2 ∧ raw = .bastore))
  | (.aastore, n, t, ci) => raw = .aastore ∧ n = 1 ∧ (match cl[ci]? with | some r => ty t = .object r.1 | none => False)
  | (.invokespecial ix, n, _, _) => raw = .invokespecial ix ∧ n = 3 ∧ Cond.methodLink own ix Lib.objectInit ∈ Ts ∧ Cond.instanceMethod Lib.objectInit ∈ Ts ∧ Cond.code Lib.objectInit ⟨#[0xb1]⟩ 1 none ∈ Ts
  | (.invokeinterface _ _, n, _, _) => n = 3
  | (o, n, _, _) => raw = o ∧ n = 1
section XSTEPS
variable (p : Program) (l : Launch) (e : Env) (R : Room) (s : State) (m : MethodId) (args : Array Value) (below : List Frame) (meth : Method) (c : Code) (Q : State → Prop)
variable (b base : Nat) (ta : (Nat → Nat) × Option Nat) (dA : Nat → ClassId) (D : va_G) (cl : List vw_C) (n0 z0 : Nat)
/-- from here the real machine comes to Q; n0, z0: the cells and slots that were there at the method's entry -/
def XK (pc : Nat) (ls : xL) (st : List Value) (h : xH) : Prop := n0 ≤ h.length → z0 ≤ xsz h →
  ∀ (H : Heap) (locs : List Loc) (rl : Array Slot), xls b base ta ls rl → H.size = base + h.length → va_P D cl (xws b base ta dA h) H → va_S (fun q => base ≤ q) s.heap H locs →
    W p l e R s m args below meth c H locs (h.length - n0) (xsz h - z0) Q (F0 m pc rl (st.map (xv b base ta)))
end XSTEPS
section XROWS
variable {p : Program} {l : Launch} {e : Env} {R : Room} {s : State} {m : MethodId} {args : Array Value} {below : List Frame} {meth : Method} {c : Code} {Q : State → Prop}
variable {b base : Nat} {ta : (Nat → Nat) × Option Nat} {dA : Nat → ClassId} {D : va_G} {cl : List vw_C} {n0 z0 : Nat} {cc : ByteArray} {pc : Nat} {ls : xL} {st : List Value} {h : xH}
/-- where a jump goes -/
theorem xjump {pc : Nat} {t : Int} (h : 0 ≤ t) : (pc : Int) + (t - pc) = (t.toNat : Int) := by omega
/-- a store of one word into a local, whatever the instruction -/
theorem xs_store {p' : Nat} {i : Nat} {v : Value} {ls' : xL} (hs : xset ls i v = some ls') (K : XK p l e R s m args below meth c Q b base ta dA D cl n0 z0 p' ls' st h)
    (row : ∀ (H : Heap) (locs : List Loc) (cells slots : Nat) (rl : Array Slot), lv_has rl ls.length (xlp b base ta ls) → i < ls.length → (∀ ls1 : Array Slot, lv_has ls1 ls.length ((i, xv b base ta v) :: (xlp b base ta ls).filter (fun q => !(q.1 == i) && !(q.1 + 1 == i && q.2.category == 2))) → W p l e R s m args below meth c H locs cells slots Q (F0 m p' ls1 (st.map (xv b base ta)))) → W p l e R s m args below meth c H locs cells slots Q (F0 m pc rl (xv b base ta v :: st.map (xv b base ta)))) :
    XK p l e R s m args below meth c Q b base ta dA D cl n0 z0 pc ls (v :: st) h := fun hn hz H locs rl h1 h2 h3 h4 =>
  row H locs _ _ rl (xls_has h1) (xset_spec hs).1 (fun ls1 hl => K hn hz H locs ls1 (xls_put hs hl) h2 h3 h4)
end XROWS
end
section
/-! THE INSTRUCTIONS THAT LEAVE THE HEAP AS IT IS -/
/-- the code of a field's type -/
def xtc (t : FieldType) : Nat := match t with
  | .int => 0
  | .boolean => 1
  | .byte => 2
  | .char => 3
  | .short => 4
  | .long => 5
  | .object _ => 6
  | .array _ => 6
  | _ => 99
/-- what holds of a class: the words of its fields, their types, their names -/
def XC (Ts : List Cond) (tf : Nat → Nat → Nat) (ci : Nat) (r : vw_C) : Prop := (∀ w ∈ u_ws r.1 r.2.1 r.2.2, w ∈ Ts) ∧ (∃ ty0 : Nat → FieldType, ∀ k, k < r.2.2 → parseFieldDescriptor (r.2.1 k).2.2.1 = some (ty0 k) ∧ xtc (ty0 k) = tf ci k) ∧ ∀ a, a < r.2.2 → ∀ b, b < r.2.2 → a ≠ b → (r.2.1 a).2.1 ≠ (r.2.1 b).2.1
/-- what holds of the tables, whatever the state: of the classes; ty: the types of the arrays' elements by their codes -/
def XG (Ts : List Cond) (cl : List vw_C) (tf : Nat → Nat → Nat) (ty : Nat → FieldType) : Prop := (∀ (ci : Nat) (r : vw_C), cl[ci]? = some r → XC Ts tf ci r) ∧ ty 0 = .int ∧ ty 1 = .boolean ∧ ty 2 = .byte ∧ ty 3 = .char ∧ ty 5 = .long ∧ ∀ t, 6 ≤ t → t < 12 → (ty t).isReference = true
/-- what holds of the texts: the literals, where they are loaded, and that Strings are compact -/
def XTx (base : Nat) (ta : (Nat → Nat) × Option Nat) (lit : List (List Int32)) (ldcs : List (String × Nat × String × Nat)) (s : State) : Prop :=
  vk_S lit.length (lit.map List.length) lit (fun i => ta.1 (2 * i)) (fun i => ta.1 (2 * i + 1)) (fun q => base ≤ q) s s.heap ∧ (∀ q ∈ ldcs, vk_R q.1 q.2.1 q.2.2.1 (ta.1 (2 * q.2.2.2)) s) ∧ va_Z "java/lang/String" "COMPACT_STRINGS" "Z" (.int 1) (fun q => base ≤ q) s s.heap ∧ va_Z "jdk/internal/util/Preconditions" "SIOOBE_FORMATTER" "Ljava/util/function/BiFunction;" (va_rf ta.2) (fun q => base ≤ q) s s.heap
theorem XTx.go {base : Nat} {ta : (Nat → Nat) × Option Nat} {lit : List (List Int32)} {ldcs : List (String × Nat × String × Nat)} {s U : State} (h : XTx base ta lit ldcs s) (hW : s.WarmedH U.vm) (hq : ∀ q, q < s.heap.size → ¬ base ≤ q → U.heap[q]? = s.heap[q]?) : XTx base ta lit ldcs U :=
  ⟨vk_S.moved hW.alike (h.1.kept hq), fun q hq9 => (h.2.1 q hq9).warm hW, va_Z.moved hW.alike (h.2.2.1.kept hq), va_Z.moved hW.alike (h.2.2.2.kept hq)⟩
/-- what holds at a method's entry -/
def XF (p : Program) (s : State) (m : MethodId) (args : Array Value) (meth : Method) (c : Code) (b base : Nat) (dA : Nat → ClassId) (D : va_G) (cl : List vw_C) (Ts : List Cond) (ty : Nat → FieldType) (L : Nat) (xs : Nat → Int32) (ta : (Nat → Nat) × Option Nat) (lit : List (List Int32)) (ldcs : List (String × Nat × String × Nat)) (cc : ByteArray) (own : String) (ini : Bool) : Prop :=
  p.tables.exec = Jvm.exec ∧ c.code = cc ∧ s.vm.findClass own = some m.cls ∧ (∀ w ∈ Ts, w.before args s = true) ∧ va_K D cl [] s ∧ (∀ t, ArrOfT s (dA t) (ty t) ∧ va_RA s (dA t) (ty t)) ∧ va_X b L xs s s.heap ∧ b < base ∧ base ≤ s.heap.size ∧ (ini = true → meth.name = "<init>") ∧ XTx base ta lit ldcs s
theorem xin_of {i : Int32} {n : Nat} (h : xin i n = true) : ¬ (i < 0 ∨ n ≤ i.toNatClampNeg) := of_decide_eq_true h
theorem xin_lt {i : Int32} {n : Nat} (h : xin i n = true) : i.toNatClampNeg < n := Nat.not_le.mp fun q => xin_of h (Or.inr q)
section XPLAIN
variable {p : Program} {l : Launch} {e : Env} {R : Room} {s : State} {m : MethodId} {args : Array Value} {below : List Frame} {meth : Method} {c : Code} {Q : State → Prop}
variable {b base : Nat} {ta : (Nat → Nat) × Option Nat} {dA : Nat → ClassId} {D : va_G} {cl : List vw_C} {n0 z0 : Nat} {cc : ByteArray} {pc pc' n : Nat} {ls ls' : xL} {st st' : List Value} {h h' : xH} {raw : Instr} {x1 x2 : Nat}
variable {Ts : List Cond} {ty : Nat → FieldType} {own : String} {tf : Nat → Nat → Nat} {ini : Bool}
variable {nf : Nat → List Value} {L : Nat} {xs : Nat → Int32} {mc : Nat → Option Nat} {lit : List (List Int32)} {ldcs : List (String × Nat × String × Nat)}
theorem xs_iconst {v : Int} (F : XF p s m args meth c b base dA D cl Ts ty L xs ta lit ldcs cc own ini) (G : XG Ts cl tf ty) (hd : decode cc pc = .ok (raw, n)) (hok : xok Ts cl own tf nf ty ldcs ini pc raw (.iconst v, n, x1, x2)) (hs : xstep nf L xs lit mc (.iconst v, n, x1, x2) pc ls st h = some (.inl (pc', ls', st', h'))) (K : XK p l e R s m args below meth c Q b base ta dA D cl n0 z0 pc' ls' st' h') : XK p l e R s m args below meth c Q b base ta dA D cl n0 z0 pc ls st h := by
  obtain ⟨hx, hb, hown, hts, hK, hA, hX, hbl, hbs, hini, hTx⟩ := F
  obtain ⟨hcl, ty0, ty1, ty2, ty3, ty5, tyR⟩ := G
  cases hs
  intro hn hz H locs rl h1 h2 h3 h4
  rcases hok with ⟨rfl, rfl⟩ | ⟨rfl, rfl, hv⟩ | ⟨rfl, rfl, hv⟩
  · exact lv_iconst hx hb hd rfl (K hn hz H locs rl h1 h2 h3 h4)
  · exact lv_bipush hx hb hd hv (K hn hz H locs rl h1 h2 h3 h4)
  · exact lv_sipush hx hb hd hv (K hn hz H locs rl h1 h2 h3 h4)
theorem xs_lconst {v : Int} (F : XF p s m args meth c b base dA D cl Ts ty L xs ta lit ldcs cc own ini) (G : XG Ts cl tf ty) (hd : decode cc pc = .ok (raw, n)) (hok : xok Ts cl own tf nf ty ldcs ini pc raw (.goto_w v, n, x1, x2)) (hs : xstep nf L xs lit mc (.goto_w v, n, x1, x2) pc ls st h = some (.inl (pc', ls', st', h'))) (K : XK p l e R s m args below meth c Q b base ta dA D cl n0 z0 pc' ls' st' h') : XK p l e R s m args below meth c Q b base ta dA D cl n0 z0 pc ls st h := by
  obtain ⟨hx, hb, hown, hts, hK, hA, hX, hbl, hbs, hini, hTx⟩ := F
  obtain ⟨hcl, ty0, ty1, ty2, ty3, ty5, tyR⟩ := G
  cases hs
  intro hn hz H locs rl h1 h2 h3 h4
  obtain ⟨rfl, rfl, hv⟩ := hok
  exact lv_ldc2 hx hb hown (hts _ hv) hd (K hn hz H locs rl h1 h2 h3 h4)
theorem xs_iload {i : Nat} (F : XF p s m args meth c b base dA D cl Ts ty L xs ta lit ldcs cc own ini) (G : XG Ts cl tf ty) (hd : decode cc pc = .ok (raw, n)) (hok : xok Ts cl own tf nf ty ldcs ini pc raw (.iload i, n, x1, x2)) (hs : xstep nf L xs lit mc (.iload i, n, x1, x2) pc ls st h = some (.inl (pc', ls', st', h'))) (K : XK p l e R s m args below meth c Q b base ta dA D cl n0 z0 pc' ls' st' h') : XK p l e R s m args below meth c Q b base ta dA D cl n0 z0 pc ls st h := by
  obtain ⟨hx, hb, hown, hts, hK, hA, hX, hbl, hbs, hini, hTx⟩ := F
  obtain ⟨hcl, ty0, ty1, ty2, ty3, ty5, tyR⟩ := G
  simp only [xstep] at hs
  split at hs
  · rename_i x hl
    cases hs
    intro hn hz H locs rl h1 h2 h3 h4
    rcases hok with ⟨rfl, rfl⟩ | ⟨rfl, k, rfl, rfl⟩
    · exact lv_iload hx hb hd (h1.2.2 _ _ hl) (K hn hz H locs rl h1 h2 h3 h4)
    · exact lv_iload_n hx hb hd rfl (h1.2.2 _ _ hl) (K hn hz H locs rl h1 h2 h3 h4)
  · cases hs
theorem xs_lload {i : Nat} (F : XF p s m args meth c b base dA D cl Ts ty L xs ta lit ldcs cc own ini) (G : XG Ts cl tf ty) (hd : decode cc pc = .ok (raw, n)) (hok : xok Ts cl own tf nf ty ldcs ini pc raw (.lload i, n, x1, x2)) (hs : xstep nf L xs lit mc (.lload i, n, x1, x2) pc ls st h = some (.inl (pc', ls', st', h'))) (K : XK p l e R s m args below meth c Q b base ta dA D cl n0 z0 pc' ls' st' h') : XK p l e R s m args below meth c Q b base ta dA D cl n0 z0 pc ls st h := by
  obtain ⟨hx, hb, hown, hts, hK, hA, hX, hbl, hbs, hini, hTx⟩ := F
  obtain ⟨hcl, ty0, ty1, ty2, ty3, ty5, tyR⟩ := G
  simp only [xstep] at hs
  split at hs
  · rename_i x hl
    cases hs
    intro hn hz H locs rl h1 h2 h3 h4
    rcases hok with ⟨rfl, rfl⟩ | ⟨rfl, k, rfl, rfl⟩
    · exact lv_lload hx hb hd (h1.2.2 _ _ hl) (K hn hz H locs rl h1 h2 h3 h4)
    · exact lv_lload_n hx hb hd rfl (h1.2.2 _ _ hl) (K hn hz H locs rl h1 h2 h3 h4)
  · cases hs
theorem xs_aload {i : Nat} (F : XF p s m args meth c b base dA D cl Ts ty L xs ta lit ldcs cc own ini) (G : XG Ts cl tf ty) (hd : decode cc pc = .ok (raw, n)) (hok : xok Ts cl own tf nf ty ldcs ini pc raw (.aload i, n, x1, x2)) (hs : xstep nf L xs lit mc (.aload i, n, x1, x2) pc ls st h = some (.inl (pc', ls', st', h'))) (K : XK p l e R s m args below meth c Q b base ta dA D cl n0 z0 pc' ls' st' h') : XK p l e R s m args below meth c Q b base ta dA D cl n0 z0 pc ls st h := by
  obtain ⟨hx, hb, hown, hts, hK, hA, hX, hbl, hbs, hini, hTx⟩ := F
  obtain ⟨hcl, ty0, ty1, ty2, ty3, ty5, tyR⟩ := G
  simp only [xstep] at hs
  split at hs
  · rename_i v hl
    split at hs
    · rename_i hv
      cases hs
      intro hn hz H locs rl h1 h2 h3 h4
      obtain ⟨a, ha⟩ := xv_ref (b := b) (base := base) (ta := ta) hv
      have hl2 := h1.2.2 _ _ hl
      rw [ha] at hl2
      have K2 := K hn hz H locs rl h1 h2 h3 h4
      rw [List.map_cons, ha] at K2
      rcases hok with ⟨rfl, rfl⟩ | ⟨rfl, k, rfl, rfl⟩
      · exact lv_aload hx hb hd hl2 K2
      · exact lv_aload_n hx hb hd rfl hl2 K2
    · cases hs
  · cases hs
theorem xs_istore {i : Nat} (F : XF p s m args meth c b base dA D cl Ts ty L xs ta lit ldcs cc own ini) (G : XG Ts cl tf ty) (hd : decode cc pc = .ok (raw, n)) (hok : xok Ts cl own tf nf ty ldcs ini pc raw (.istore i, n, x1, x2)) (hs : xstep nf L xs lit mc (.istore i, n, x1, x2) pc ls st h = some (.inl (pc', ls', st', h'))) (K : XK p l e R s m args below meth c Q b base ta dA D cl n0 z0 pc' ls' st' h') : XK p l e R s m args below meth c Q b base ta dA D cl n0 z0 pc ls st h := by
  obtain ⟨hx, hb, hown, hts, hK, hA, hX, hbl, hbs, hini, hTx⟩ := F
  obtain ⟨hcl, ty0, ty1, ty2, ty3, ty5, tyR⟩ := G
  simp only [xstep] at hs
  split at hs
  · rename_i x st0
    split at hs
    · rename_i ls1 he
      cases hs
      refine xs_store he K (fun H locs cells slots rl hl hi kk => ?_)
      rcases hok with ⟨rfl, rfl⟩ | ⟨rfl, k, rfl, rfl⟩
      · exact lv_istore hx hb hd hl hi rfl kk
      · exact lv_istore_n hx hb hd rfl hl hi rfl kk
    · cases hs
  · cases hs
theorem xs_astore {i : Nat} (F : XF p s m args meth c b base dA D cl Ts ty L xs ta lit ldcs cc own ini) (G : XG Ts cl tf ty) (hd : decode cc pc = .ok (raw, n)) (hok : xok Ts cl own tf nf ty ldcs ini pc raw (.astore i, n, x1, x2)) (hs : xstep nf L xs lit mc (.astore i, n, x1, x2) pc ls st h = some (.inl (pc', ls', st', h'))) (K : XK p l e R s m args below meth c Q b base ta dA D cl n0 z0 pc' ls' st' h') : XK p l e R s m args below meth c Q b base ta dA D cl n0 z0 pc ls st h := by
  obtain ⟨hx, hb, hown, hts, hK, hA, hX, hbl, hbs, hini, hTx⟩ := F
  obtain ⟨hcl, ty0, ty1, ty2, ty3, ty5, tyR⟩ := G
  simp only [xstep] at hs
  split at hs
  · rename_i v st0
    split at hs
    · rename_i hv
      split at hs
      · rename_i ls1 he
        cases hs
        refine xs_store he K (fun H locs cells slots rl hl hi kk => ?_)
        obtain ⟨a, ha⟩ := xv_ref (b := b) (base := base) (ta := ta) hv
        rw [ha] at kk ⊢
        rcases hok with ⟨rfl, rfl⟩ | ⟨rfl, k, rfl, rfl⟩
        · exact lv_astore hx hb hd hl hi rfl kk
        · exact lv_astore_n hx hb hd rfl hl hi rfl kk
      · cases hs
    · cases hs
  · cases hs
theorem xs_iinc {i : Nat} {k : Int} (F : XF p s m args meth c b base dA D cl Ts ty L xs ta lit ldcs cc own ini) (G : XG Ts cl tf ty) (hd : decode cc pc = .ok (raw, n)) (hok : xok Ts cl own tf nf ty ldcs ini pc raw (.iinc i k, n, x1, x2)) (hs : xstep nf L xs lit mc (.iinc i k, n, x1, x2) pc ls st h = some (.inl (pc', ls', st', h'))) (K : XK p l e R s m args below meth c Q b base ta dA D cl n0 z0 pc' ls' st' h') : XK p l e R s m args below meth c Q b base ta dA D cl n0 z0 pc ls st h := by
  obtain ⟨hx, hb, hown, hts, hK, hA, hX, hbl, hbs, hini, hTx⟩ := F
  obtain ⟨hcl, ty0, ty1, ty2, ty3, ty5, tyR⟩ := G
  simp only [xstep] at hs
  split at hs
  · rename_i x hl
    split at hs
    · rename_i ls1 he
      cases hs
      obtain ⟨rfl, rfl⟩ := hok
      intro hn hz H locs rl h1 h2 h3 h4
      obtain ⟨j, hj⟩ := List.getElem?_of_mem (xlp_mem.mpr ⟨.int x, hl, rfl⟩ : (i, Value.int x) ∈ xlp b base ta ls)
      exact lv_iinc hx hb hd (xls_has h1) hj rfl (xset_spec he).1 rfl (fun ls1 hl1 => K hn hz H locs ls1 (xls_put he hl1) h2 h3 h4)
    · cases hs
  · cases hs
theorem xs_iadd (F : XF p s m args meth c b base dA D cl Ts ty L xs ta lit ldcs cc own ini) (G : XG Ts cl tf ty) (hd : decode cc pc = .ok (raw, n)) (hok : xok Ts cl own tf nf ty ldcs ini pc raw (.iadd, n, x1, x2)) (hs : xstep nf L xs lit mc (.iadd, n, x1, x2) pc ls st h = some (.inl (pc', ls', st', h'))) (K : XK p l e R s m args below meth c Q b base ta dA D cl n0 z0 pc' ls' st' h') : XK p l e R s m args below meth c Q b base ta dA D cl n0 z0 pc ls st h := by
  obtain ⟨hx, hb, hown, hts, hK, hA, hX, hbl, hbs, hini, hTx⟩ := F
  obtain ⟨hcl, ty0, ty1, ty2, ty3, ty5, tyR⟩ := G
  simp only [xstep] at hs
  split at hs
  · cases hs
    obtain ⟨rfl, rfl⟩ := hok
    intro hn hz H locs rl h1 h2 h3 h4
    exact lv_iadd hx hb hd (K hn hz H locs rl h1 h2 h3 h4)
  · cases hs
theorem xs_isub (F : XF p s m args meth c b base dA D cl Ts ty L xs ta lit ldcs cc own ini) (G : XG Ts cl tf ty) (hd : decode cc pc = .ok (raw, n)) (hok : xok Ts cl own tf nf ty ldcs ini pc raw (.isub, n, x1, x2)) (hs : xstep nf L xs lit mc (.isub, n, x1, x2) pc ls st h = some (.inl (pc', ls', st', h'))) (K : XK p l e R s m args below meth c Q b base ta dA D cl n0 z0 pc' ls' st' h') : XK p l e R s m args below meth c Q b base ta dA D cl n0 z0 pc ls st h := by
  obtain ⟨hx, hb, hown, hts, hK, hA, hX, hbl, hbs, hini, hTx⟩ := F
  obtain ⟨hcl, ty0, ty1, ty2, ty3, ty5, tyR⟩ := G
  simp only [xstep] at hs
  split at hs
  · cases hs
    obtain ⟨rfl, rfl⟩ := hok
    intro hn hz H locs rl h1 h2 h3 h4
    exact lv_isub hx hb hd (K hn hz H locs rl h1 h2 h3 h4)
  · cases hs
theorem xs_imul (F : XF p s m args meth c b base dA D cl Ts ty L xs ta lit ldcs cc own ini) (G : XG Ts cl tf ty) (hd : decode cc pc = .ok (raw, n)) (hok : xok Ts cl own tf nf ty ldcs ini pc raw (.imul, n, x1, x2)) (hs : xstep nf L xs lit mc (.imul, n, x1, x2) pc ls st h = some (.inl (pc', ls', st', h'))) (K : XK p l e R s m args below meth c Q b base ta dA D cl n0 z0 pc' ls' st' h') : XK p l e R s m args below meth c Q b base ta dA D cl n0 z0 pc ls st h := by
  obtain ⟨hx, hb, hown, hts, hK, hA, hX, hbl, hbs, hini, hTx⟩ := F
  obtain ⟨hcl, ty0, ty1, ty2, ty3, ty5, tyR⟩ := G
  simp only [xstep] at hs
  split at hs
  · cases hs
    obtain ⟨rfl, rfl⟩ := hok
    intro hn hz H locs rl h1 h2 h3 h4
    exact lv_imul hx hb hd (K hn hz H locs rl h1 h2 h3 h4)
  · cases hs
theorem xs_iand (F : XF p s m args meth c b base dA D cl Ts ty L xs ta lit ldcs cc own ini) (G : XG Ts cl tf ty) (hd : decode cc pc = .ok (raw, n)) (hok : xok Ts cl own tf nf ty ldcs ini pc raw (.iand, n, x1, x2)) (hs : xstep nf L xs lit mc (.iand, n, x1, x2) pc ls st h = some (.inl (pc', ls', st', h'))) (K : XK p l e R s m args below meth c Q b base ta dA D cl n0 z0 pc' ls' st' h') : XK p l e R s m args below meth c Q b base ta dA D cl n0 z0 pc ls st h := by
  obtain ⟨hx, hb, hown, hts, hK, hA, hX, hbl, hbs, hini, hTx⟩ := F
  obtain ⟨hcl, ty0, ty1, ty2, ty3, ty5, tyR⟩ := G
  simp only [xstep] at hs
  split at hs
  · cases hs
    obtain ⟨rfl, rfl⟩ := hok
    intro hn hz H locs rl h1 h2 h3 h4
    exact lv_iand hx hb hd (K hn hz H locs rl h1 h2 h3 h4)
  · cases hs
theorem xs_ior (F : XF p s m args meth c b base dA D cl Ts ty L xs ta lit ldcs cc own ini) (G : XG Ts cl tf ty) (hd : decode cc pc = .ok (raw, n)) (hok : xok Ts cl own tf nf ty ldcs ini pc raw (.ior, n, x1, x2)) (hs : xstep nf L xs lit mc (.ior, n, x1, x2) pc ls st h = some (.inl (pc', ls', st', h'))) (K : XK p l e R s m args below meth c Q b base ta dA D cl n0 z0 pc' ls' st' h') : XK p l e R s m args below meth c Q b base ta dA D cl n0 z0 pc ls st h := by
  obtain ⟨hx, hb, hown, hts, hK, hA, hX, hbl, hbs, hini, hTx⟩ := F
  obtain ⟨hcl, ty0, ty1, ty2, ty3, ty5, tyR⟩ := G
  simp only [xstep] at hs
  split at hs
  · cases hs
    obtain ⟨rfl, rfl⟩ := hok
    intro hn hz H locs rl h1 h2 h3 h4
    exact lv_ior hx hb hd (K hn hz H locs rl h1 h2 h3 h4)
  · cases hs
theorem xs_ishl (F : XF p s m args meth c b base dA D cl Ts ty L xs ta lit ldcs cc own ini) (G : XG Ts cl tf ty) (hd : decode cc pc = .ok (raw, n)) (hok : xok Ts cl own tf nf ty ldcs ini pc raw (.ishl, n, x1, x2)) (hs : xstep nf L xs lit mc (.ishl, n, x1, x2) pc ls st h = some (.inl (pc', ls', st', h'))) (K : XK p l e R s m args below meth c Q b base ta dA D cl n0 z0 pc' ls' st' h') : XK p l e R s m args below meth c Q b base ta dA D cl n0 z0 pc ls st h := by
  obtain ⟨hx, hb, hown, hts, hK, hA, hX, hbl, hbs, hini, hTx⟩ := F
  obtain ⟨hcl, ty0, ty1, ty2, ty3, ty5, tyR⟩ := G
  simp only [xstep] at hs
  split at hs
  · cases hs
    obtain ⟨rfl, rfl⟩ := hok
    intro hn hz H locs rl h1 h2 h3 h4
    exact lv_ishl hx hb hd (K hn hz H locs rl h1 h2 h3 h4)
  · cases hs
theorem xs_ishr (F : XF p s m args meth c b base dA D cl Ts ty L xs ta lit ldcs cc own ini) (G : XG Ts cl tf ty) (hd : decode cc pc = .ok (raw, n)) (hok : xok Ts cl own tf nf ty ldcs ini pc raw (.ishr, n, x1, x2)) (hs : xstep nf L xs lit mc (.ishr, n, x1, x2) pc ls st h = some (.inl (pc', ls', st', h'))) (K : XK p l e R s m args below meth c Q b base ta dA D cl n0 z0 pc' ls' st' h') : XK p l e R s m args below meth c Q b base ta dA D cl n0 z0 pc ls st h := by
  obtain ⟨hx, hb, hown, hts, hK, hA, hX, hbl, hbs, hini, hTx⟩ := F
  obtain ⟨hcl, ty0, ty1, ty2, ty3, ty5, tyR⟩ := G
  simp only [xstep] at hs
  split at hs
  · cases hs
    obtain ⟨rfl, rfl⟩ := hok
    intro hn hz H locs rl h1 h2 h3 h4
    exact lv_ishr hx hb hd (K hn hz H locs rl h1 h2 h3 h4)
  · cases hs
theorem xs_land (F : XF p s m args meth c b base dA D cl Ts ty L xs ta lit ldcs cc own ini) (G : XG Ts cl tf ty) (hd : decode cc pc = .ok (raw, n)) (hok : xok Ts cl own tf nf ty ldcs ini pc raw (.land, n, x1, x2)) (hs : xstep nf L xs lit mc (.land, n, x1, x2) pc ls st h = some (.inl (pc', ls', st', h'))) (K : XK p l e R s m args below meth c Q b base ta dA D cl n0 z0 pc' ls' st' h') : XK p l e R s m args below meth c Q b base ta dA D cl n0 z0 pc ls st h := by
  obtain ⟨hx, hb, hown, hts, hK, hA, hX, hbl, hbs, hini, hTx⟩ := F
  obtain ⟨hcl, ty0, ty1, ty2, ty3, ty5, tyR⟩ := G
  simp only [xstep] at hs
  split at hs
  · cases hs
    obtain ⟨rfl, rfl⟩ := hok
    intro hn hz H locs rl h1 h2 h3 h4
    exact lv_land hx hb hd (K hn hz H locs rl h1 h2 h3 h4)
  · cases hs
theorem xs_lor (F : XF p s m args meth c b base dA D cl Ts ty L xs ta lit ldcs cc own ini) (G : XG Ts cl tf ty) (hd : decode cc pc = .ok (raw, n)) (hok : xok Ts cl own tf nf ty ldcs ini pc raw (.lor, n, x1, x2)) (hs : xstep nf L xs lit mc (.lor, n, x1, x2) pc ls st h = some (.inl (pc', ls', st', h'))) (K : XK p l e R s m args below meth c Q b base ta dA D cl n0 z0 pc' ls' st' h') : XK p l e R s m args below meth c Q b base ta dA D cl n0 z0 pc ls st h := by
  obtain ⟨hx, hb, hown, hts, hK, hA, hX, hbl, hbs, hini, hTx⟩ := F
  obtain ⟨hcl, ty0, ty1, ty2, ty3, ty5, tyR⟩ := G
  simp only [xstep] at hs
  split at hs
  · cases hs
    obtain ⟨rfl, rfl⟩ := hok
    intro hn hz H locs rl h1 h2 h3 h4
    exact lv_lor hx hb hd (K hn hz H locs rl h1 h2 h3 h4)
  · cases hs
theorem xs_lushr (F : XF p s m args meth c b base dA D cl Ts ty L xs ta lit ldcs cc own ini) (G : XG Ts cl tf ty) (hd : decode cc pc = .ok (raw, n)) (hok : xok Ts cl own tf nf ty ldcs ini pc raw (.lushr, n, x1, x2)) (hs : xstep nf L xs lit mc (.lushr, n, x1, x2) pc ls st h = some (.inl (pc', ls', st', h'))) (K : XK p l e R s m args below meth c Q b base ta dA D cl n0 z0 pc' ls' st' h') : XK p l e R s m args below meth c Q b base ta dA D cl n0 z0 pc ls st h := by
  obtain ⟨hx, hb, hown, hts, hK, hA, hX, hbl, hbs, hini, hTx⟩ := F
  obtain ⟨hcl, ty0, ty1, ty2, ty3, ty5, tyR⟩ := G
  simp only [xstep] at hs
  split at hs
  · cases hs
    obtain ⟨rfl, rfl⟩ := hok
    intro hn hz H locs rl h1 h2 h3 h4
    exact lv_lushr hx hb hd rfl (K hn hz H locs rl h1 h2 h3 h4)
  · cases hs
theorem xs_lshl (F : XF p s m args meth c b base dA D cl Ts ty L xs ta lit ldcs cc own ini) (G : XG Ts cl tf ty) (hd : decode cc pc = .ok (raw, n)) (hok : xok Ts cl own tf nf ty ldcs ini pc raw (.lshl, n, x1, x2)) (hs : xstep nf L xs lit mc (.lshl, n, x1, x2) pc ls st h = some (.inl (pc', ls', st', h'))) (K : XK p l e R s m args below meth c Q b base ta dA D cl n0 z0 pc' ls' st' h') : XK p l e R s m args below meth c Q b base ta dA D cl n0 z0 pc ls st h := by
  obtain ⟨hx, hb, hown, hts, hK, hA, hX, hbl, hbs, hini, hTx⟩ := F
  obtain ⟨hcl, ty0, ty1, ty2, ty3, ty5, tyR⟩ := G
  simp only [xstep] at hs
  split at hs
  · cases hs
    obtain ⟨rfl, rfl⟩ := hok
    intro hn hz H locs rl h1 h2 h3 h4
    exact lv_lshl hx hb hd rfl (K hn hz H locs rl h1 h2 h3 h4)
  · cases hs
theorem xs_lshr (F : XF p s m args meth c b base dA D cl Ts ty L xs ta lit ldcs cc own ini) (G : XG Ts cl tf ty) (hd : decode cc pc = .ok (raw, n)) (hok : xok Ts cl own tf nf ty ldcs ini pc raw (.lshr, n, x1, x2)) (hs : xstep nf L xs lit mc (.lshr, n, x1, x2) pc ls st h = some (.inl (pc', ls', st', h'))) (K : XK p l e R s m args below meth c Q b base ta dA D cl n0 z0 pc' ls' st' h') : XK p l e R s m args below meth c Q b base ta dA D cl n0 z0 pc ls st h := by
  obtain ⟨hx, hb, hown, hts, hK, hA, hX, hbl, hbs, hini, hTx⟩ := F
  obtain ⟨hcl, ty0, ty1, ty2, ty3, ty5, tyR⟩ := G
  simp only [xstep] at hs
  split at hs
  · cases hs
    obtain ⟨rfl, rfl⟩ := hok
    intro hn hz H locs rl h1 h2 h3 h4
    exact lv_lshr hx hb hd rfl (K hn hz H locs rl h1 h2 h3 h4)
  · cases hs
theorem xs_ineg (F : XF p s m args meth c b base dA D cl Ts ty L xs ta lit ldcs cc own ini) (G : XG Ts cl tf ty) (hd : decode cc pc = .ok (raw, n)) (hok : xok Ts cl own tf nf ty ldcs ini pc raw (.ineg, n, x1, x2)) (hs : xstep nf L xs lit mc (.ineg, n, x1, x2) pc ls st h = some (.inl (pc', ls', st', h'))) (K : XK p l e R s m args below meth c Q b base ta dA D cl n0 z0 pc' ls' st' h') : XK p l e R s m args below meth c Q b base ta dA D cl n0 z0 pc ls st h := by
  obtain ⟨hx, hb, hown, hts, hK, hA, hX, hbl, hbs, hini, hTx⟩ := F
  obtain ⟨hcl, ty0, ty1, ty2, ty3, ty5, tyR⟩ := G
  simp only [xstep] at hs
  split at hs
  · cases hs
    obtain ⟨rfl, rfl⟩ := hok
    intro hn hz H locs rl h1 h2 h3 h4
    exact lv_ineg hx hb hd (K hn hz H locs rl h1 h2 h3 h4)
  · cases hs
theorem xs_i2l (F : XF p s m args meth c b base dA D cl Ts ty L xs ta lit ldcs cc own ini) (G : XG Ts cl tf ty) (hd : decode cc pc = .ok (raw, n)) (hok : xok Ts cl own tf nf ty ldcs ini pc raw (.i2l, n, x1, x2)) (hs : xstep nf L xs lit mc (.i2l, n, x1, x2) pc ls st h = some (.inl (pc', ls', st', h'))) (K : XK p l e R s m args below meth c Q b base ta dA D cl n0 z0 pc' ls' st' h') : XK p l e R s m args below meth c Q b base ta dA D cl n0 z0 pc ls st h := by
  obtain ⟨hx, hb, hown, hts, hK, hA, hX, hbl, hbs, hini, hTx⟩ := F
  obtain ⟨hcl, ty0, ty1, ty2, ty3, ty5, tyR⟩ := G
  simp only [xstep] at hs
  split at hs
  · cases hs
    obtain ⟨rfl, rfl⟩ := hok
    intro hn hz H locs rl h1 h2 h3 h4
    exact lv_i2l hx hb hd rfl (K hn hz H locs rl h1 h2 h3 h4)
  · cases hs
theorem xs_l2i (F : XF p s m args meth c b base dA D cl Ts ty L xs ta lit ldcs cc own ini) (G : XG Ts cl tf ty) (hd : decode cc pc = .ok (raw, n)) (hok : xok Ts cl own tf nf ty ldcs ini pc raw (.l2i, n, x1, x2)) (hs : xstep nf L xs lit mc (.l2i, n, x1, x2) pc ls st h = some (.inl (pc', ls', st', h'))) (K : XK p l e R s m args below meth c Q b base ta dA D cl n0 z0 pc' ls' st' h') : XK p l e R s m args below meth c Q b base ta dA D cl n0 z0 pc ls st h := by
  obtain ⟨hx, hb, hown, hts, hK, hA, hX, hbl, hbs, hini, hTx⟩ := F
  obtain ⟨hcl, ty0, ty1, ty2, ty3, ty5, tyR⟩ := G
  simp only [xstep] at hs
  split at hs
  · cases hs
    obtain ⟨rfl, rfl⟩ := hok
    intro hn hz H locs rl h1 h2 h3 h4
    exact lv_l2i hx hb hd rfl (K hn hz H locs rl h1 h2 h3 h4)
  · cases hs
theorem xs_i2c (F : XF p s m args meth c b base dA D cl Ts ty L xs ta lit ldcs cc own ini) (G : XG Ts cl tf ty) (hd : decode cc pc = .ok (raw, n)) (hok : xok Ts cl own tf nf ty ldcs ini pc raw (.i2c, n, x1, x2)) (hs : xstep nf L xs lit mc (.i2c, n, x1, x2) pc ls st h = some (.inl (pc', ls', st', h'))) (K : XK p l e R s m args below meth c Q b base ta dA D cl n0 z0 pc' ls' st' h') : XK p l e R s m args below meth c Q b base ta dA D cl n0 z0 pc ls st h := by
  obtain ⟨hx, hb, hown, hts, hK, hA, hX, hbl, hbs, hini, hTx⟩ := F
  obtain ⟨hcl, ty0, ty1, ty2, ty3, ty5, tyR⟩ := G
  simp only [xstep] at hs
  split at hs
  · cases hs
    obtain ⟨rfl, rfl⟩ := hok
    intro hn hz H locs rl h1 h2 h3 h4
    exact lv_i2c hx hb hd rfl (K hn hz H locs rl h1 h2 h3 h4)
  · cases hs
theorem xs_lcmp (F : XF p s m args meth c b base dA D cl Ts ty L xs ta lit ldcs cc own ini) (G : XG Ts cl tf ty) (hd : decode cc pc = .ok (raw, n)) (hok : xok Ts cl own tf nf ty ldcs ini pc raw (.lcmp, n, x1, x2)) (hs : xstep nf L xs lit mc (.lcmp, n, x1, x2) pc ls st h = some (.inl (pc', ls', st', h'))) (K : XK p l e R s m args below meth c Q b base ta dA D cl n0 z0 pc' ls' st' h') : XK p l e R s m args below meth c Q b base ta dA D cl n0 z0 pc ls st h := by
  obtain ⟨hx, hb, hown, hts, hK, hA, hX, hbl, hbs, hini, hTx⟩ := F
  obtain ⟨hcl, ty0, ty1, ty2, ty3, ty5, tyR⟩ := G
  simp only [xstep] at hs
  split at hs
  · cases hs
    obtain ⟨rfl, rfl⟩ := hok
    intro hn hz H locs rl h1 h2 h3 h4
    exact W.lcmp hx hb hd (K hn hz H locs rl h1 h2 h3 h4)
  · cases hs
theorem xs_idiv (F : XF p s m args meth c b base dA D cl Ts ty L xs ta lit ldcs cc own ini) (G : XG Ts cl tf ty) (hd : decode cc pc = .ok (raw, n)) (hok : xok Ts cl own tf nf ty ldcs ini pc raw (.idiv, n, x1, x2)) (hs : xstep nf L xs lit mc (.idiv, n, x1, x2) pc ls st h = some (.inl (pc', ls', st', h'))) (K : XK p l e R s m args below meth c Q b base ta dA D cl n0 z0 pc' ls' st' h') : XK p l e R s m args below meth c Q b base ta dA D cl n0 z0 pc ls st h := by
  obtain ⟨hx, hb, hown, hts, hK, hA, hX, hbl, hbs, hini, hTx⟩ := F
  obtain ⟨hcl, ty0, ty1, ty2, ty3, ty5, tyR⟩ := G
  simp only [xstep] at hs
  split at hs
  · split at hs
    · cases hs
    · rename_i hne
      cases hs
      obtain ⟨rfl, rfl⟩ := hok
      intro hn hz H locs rl h1 h2 h3 h4
      exact lv_idiv hx hb hd hne (K hn hz H locs rl h1 h2 h3 h4)
  · cases hs
theorem xs_irem (F : XF p s m args meth c b base dA D cl Ts ty L xs ta lit ldcs cc own ini) (G : XG Ts cl tf ty) (hd : decode cc pc = .ok (raw, n)) (hok : xok Ts cl own tf nf ty ldcs ini pc raw (.irem, n, x1, x2)) (hs : xstep nf L xs lit mc (.irem, n, x1, x2) pc ls st h = some (.inl (pc', ls', st', h'))) (K : XK p l e R s m args below meth c Q b base ta dA D cl n0 z0 pc' ls' st' h') : XK p l e R s m args below meth c Q b base ta dA D cl n0 z0 pc ls st h := by
  obtain ⟨hx, hb, hown, hts, hK, hA, hX, hbl, hbs, hini, hTx⟩ := F
  obtain ⟨hcl, ty0, ty1, ty2, ty3, ty5, tyR⟩ := G
  simp only [xstep] at hs
  split at hs
  · split at hs
    · cases hs
    · rename_i hne
      cases hs
      obtain ⟨rfl, rfl⟩ := hok
      intro hn hz H locs rl h1 h2 h3 h4
      exact lv_irem hx hb hd hne (K hn hz H locs rl h1 h2 h3 h4)
  · cases hs
theorem xs_dup (F : XF p s m args meth c b base dA D cl Ts ty L xs ta lit ldcs cc own ini) (G : XG Ts cl tf ty) (hd : decode cc pc = .ok (raw, n)) (hok : xok Ts cl own tf nf ty ldcs ini pc raw (.dup, n, x1, x2)) (hs : xstep nf L xs lit mc (.dup, n, x1, x2) pc ls st h = some (.inl (pc', ls', st', h'))) (K : XK p l e R s m args below meth c Q b base ta dA D cl n0 z0 pc' ls' st' h') : XK p l e R s m args below meth c Q b base ta dA D cl n0 z0 pc ls st h := by
  obtain ⟨hx, hb, hown, hts, hK, hA, hX, hbl, hbs, hini, hTx⟩ := F
  obtain ⟨hcl, ty0, ty1, ty2, ty3, ty5, tyR⟩ := G
  simp only [xstep] at hs
  split at hs
  · split at hs
    · rename_i hc
      cases hs
      obtain ⟨rfl, rfl⟩ := hok
      intro hn hz H locs rl h1 h2 h3 h4
      exact lv_dup hx hb hd (xv_cat1 b base ta hc) (K hn hz H locs rl h1 h2 h3 h4)
    · cases hs
  · cases hs
theorem xs_pop (F : XF p s m args meth c b base dA D cl Ts ty L xs ta lit ldcs cc own ini) (G : XG Ts cl tf ty) (hd : decode cc pc = .ok (raw, n)) (hok : xok Ts cl own tf nf ty ldcs ini pc raw (.pop, n, x1, x2)) (hs : xstep nf L xs lit mc (.pop, n, x1, x2) pc ls st h = some (.inl (pc', ls', st', h'))) (K : XK p l e R s m args below meth c Q b base ta dA D cl n0 z0 pc' ls' st' h') : XK p l e R s m args below meth c Q b base ta dA D cl n0 z0 pc ls st h := by
  obtain ⟨hx, hb, hown, hts, hK, hA, hX, hbl, hbs, hini, hTx⟩ := F
  obtain ⟨hcl, ty0, ty1, ty2, ty3, ty5, tyR⟩ := G
  simp only [xstep] at hs
  split at hs
  · split at hs
    · rename_i hc
      cases hs
      obtain ⟨rfl, rfl⟩ := hok
      intro hn hz H locs rl h1 h2 h3 h4
      exact lv_pop hx hb hd (xv_cat1 b base ta hc) (K hn hz H locs rl h1 h2 h3 h4)
    · cases hs
  · cases hs
theorem xs_dup_x1 (F : XF p s m args meth c b base dA D cl Ts ty L xs ta lit ldcs cc own ini) (G : XG Ts cl tf ty) (hd : decode cc pc = .ok (raw, n)) (hok : xok Ts cl own tf nf ty ldcs ini pc raw (.dup_x1, n, x1, x2)) (hs : xstep nf L xs lit mc (.dup_x1, n, x1, x2) pc ls st h = some (.inl (pc', ls', st', h'))) (K : XK p l e R s m args below meth c Q b base ta dA D cl n0 z0 pc' ls' st' h') : XK p l e R s m args below meth c Q b base ta dA D cl n0 z0 pc ls st h := by
  obtain ⟨hx, hb, hown, hts, hK, hA, hX, hbl, hbs, hini, hTx⟩ := F
  obtain ⟨hcl, ty0, ty1, ty2, ty3, ty5, tyR⟩ := G
  simp only [xstep] at hs
  split at hs
  · split at hs
    · rename_i hc
      cases hs
      obtain ⟨rfl, rfl⟩ := hok
      intro hn hz H locs rl h1 h2 h3 h4
      exact lv_dup_x1 hx hb hd (xv_cat1 b base ta hc.1) (xv_cat1 b base ta hc.2) (K hn hz H locs rl h1 h2 h3 h4)
    · cases hs
  · cases hs
theorem xs_dup2 (F : XF p s m args meth c b base dA D cl Ts ty L xs ta lit ldcs cc own ini) (G : XG Ts cl tf ty) (hd : decode cc pc = .ok (raw, n)) (hok : xok Ts cl own tf nf ty ldcs ini pc raw (.dup2, n, x1, x2)) (hs : xstep nf L xs lit mc (.dup2, n, x1, x2) pc ls st h = some (.inl (pc', ls', st', h'))) (K : XK p l e R s m args below meth c Q b base ta dA D cl n0 z0 pc' ls' st' h') : XK p l e R s m args below meth c Q b base ta dA D cl n0 z0 pc ls st h := by
  obtain ⟨hx, hb, hown, hts, hK, hA, hX, hbl, hbs, hini, hTx⟩ := F
  obtain ⟨hcl, ty0, ty1, ty2, ty3, ty5, tyR⟩ := G
  simp only [xstep] at hs
  split at hs
  · split at hs
    · rename_i hc
      cases hs
      obtain ⟨rfl, rfl⟩ := hok
      intro hn hz H locs rl h1 h2 h3 h4
      exact lv_dup2_11 hx hb hd (xv_cat1 b base ta hc.1) (xv_cat1 b base ta hc.2) (K hn hz H locs rl h1 h2 h3 h4)
    · cases hs
  · cases hs
theorem xs_goto {t : Int} (F : XF p s m args meth c b base dA D cl Ts ty L xs ta lit ldcs cc own ini) (G : XG Ts cl tf ty) (hd : decode cc pc = .ok (raw, n)) (hok : xok Ts cl own tf nf ty ldcs ini pc raw (.goto t, n, x1, x2)) (hs : xstep nf L xs lit mc (.goto t, n, x1, x2) pc ls st h = some (.inl (pc', ls', st', h'))) (K : XK p l e R s m args below meth c Q b base ta dA D cl n0 z0 pc' ls' st' h') : XK p l e R s m args below meth c Q b base ta dA D cl n0 z0 pc ls st h := by
  obtain ⟨hx, hb, hown, hts, hK, hA, hX, hbl, hbs, hini, hTx⟩ := F
  obtain ⟨hcl, ty0, ty1, ty2, ty3, ty5, tyR⟩ := G
  cases hs
  obtain ⟨rfl, rfl, ht⟩ := hok
  intro hn hz H locs rl h1 h2 h3 h4
  exact lv_goto hx hb hd (xjump ht) (K hn hz H locs rl h1 h2 h3 h4)
theorem xs_if {cd : ClassFile.Cond} {t : Int} (F : XF p s m args meth c b base dA D cl Ts ty L xs ta lit ldcs cc own ini) (G : XG Ts cl tf ty) (hd : decode cc pc = .ok (raw, n)) (hok : xok Ts cl own tf nf ty ldcs ini pc raw (.ifCond cd t, n, x1, x2)) (hs : xstep nf L xs lit mc (.ifCond cd t, n, x1, x2) pc ls st h = some (.inl (pc', ls', st', h'))) (K : XK p l e R s m args below meth c Q b base ta dA D cl n0 z0 pc' ls' st' h') : XK p l e R s m args below meth c Q b base ta dA D cl n0 z0 pc ls st h := by
  obtain ⟨hx, hb, hown, hts, hK, hA, hX, hbl, hbs, hini, hTx⟩ := F
  obtain ⟨hcl, ty0, ty1, ty2, ty3, ty5, tyR⟩ := G
  simp only [xstep] at hs
  split at hs
  · obtain ⟨rfl, rfl, ht⟩ := hok
    intro hn hz H locs rl h1 h2 h3 h4
    cases cd with
    | eq =>
      simp only [xcmp, decide_eq_true_eq] at hs
      refine lv_if_eq hx hb hd (xjump ht) (fun q => ?_) (fun q => ?_)
      · rw [if_pos q] at hs
        cases hs
        exact K hn hz H locs rl h1 h2 h3 h4
      · rw [if_neg q] at hs
        cases hs
        exact K hn hz H locs rl h1 h2 h3 h4
    | ne =>
      simp only [xcmp, decide_eq_true_eq] at hs
      refine lv_if_ne hx hb hd (xjump ht) (fun q => ?_) (fun q => ?_)
      · rw [if_pos q] at hs
        cases hs
        exact K hn hz H locs rl h1 h2 h3 h4
      · rw [if_neg (fun z => z q)] at hs
        cases hs
        exact K hn hz H locs rl h1 h2 h3 h4
    | lt =>
      simp only [xcmp, decide_eq_true_eq] at hs
      refine lv_if_lt hx hb hd (xjump ht) (fun q => ?_) (fun q => ?_)
      · rw [if_pos q] at hs
        cases hs
        exact K hn hz H locs rl h1 h2 h3 h4
      · rw [if_neg q] at hs
        cases hs
        exact K hn hz H locs rl h1 h2 h3 h4
    | ge =>
      simp only [xcmp, decide_eq_true_eq] at hs
      refine lv_if_ge hx hb hd (xjump ht) (fun q => ?_) (fun q => ?_)
      · rw [if_pos q] at hs
        cases hs
        exact K hn hz H locs rl h1 h2 h3 h4
      · rw [if_neg q] at hs
        cases hs
        exact K hn hz H locs rl h1 h2 h3 h4
    | gt =>
      simp only [xcmp, decide_eq_true_eq] at hs
      refine lv_if_gt hx hb hd (xjump ht) (fun q => ?_) (fun q => ?_)
      · rw [if_pos q] at hs
        cases hs
        exact K hn hz H locs rl h1 h2 h3 h4
      · rw [if_neg q] at hs
        cases hs
        exact K hn hz H locs rl h1 h2 h3 h4
    | le =>
      simp only [xcmp, decide_eq_true_eq] at hs
      refine lv_if_le hx hb hd (xjump ht) (fun q => ?_) (fun q => ?_)
      · rw [if_pos q] at hs
        cases hs
        exact K hn hz H locs rl h1 h2 h3 h4
      · rw [if_neg q] at hs
        cases hs
        exact K hn hz H locs rl h1 h2 h3 h4
  · cases hs
theorem xs_icmp {cd : ClassFile.Cond} {t : Int} (F : XF p s m args meth c b base dA D cl Ts ty L xs ta lit ldcs cc own ini) (G : XG Ts cl tf ty) (hd : decode cc pc = .ok (raw, n)) (hok : xok Ts cl own tf nf ty ldcs ini pc raw (.if_icmp cd t, n, x1, x2)) (hs : xstep nf L xs lit mc (.if_icmp cd t, n, x1, x2) pc ls st h = some (.inl (pc', ls', st', h'))) (K : XK p l e R s m args below meth c Q b base ta dA D cl n0 z0 pc' ls' st' h') : XK p l e R s m args below meth c Q b base ta dA D cl n0 z0 pc ls st h := by
  obtain ⟨hx, hb, hown, hts, hK, hA, hX, hbl, hbs, hini, hTx⟩ := F
  obtain ⟨hcl, ty0, ty1, ty2, ty3, ty5, tyR⟩ := G
  simp only [xstep] at hs
  split at hs
  · obtain ⟨rfl, rfl, ht⟩ := hok
    intro hn hz H locs rl h1 h2 h3 h4
    cases cd with
    | eq =>
      simp only [xcmp, decide_eq_true_eq] at hs
      refine lv_icmp_eq hx hb hd (xjump ht) (fun q => ?_) (fun q => ?_)
      · rw [if_pos q] at hs
        cases hs
        exact K hn hz H locs rl h1 h2 h3 h4
      · rw [if_neg q] at hs
        cases hs
        exact K hn hz H locs rl h1 h2 h3 h4
    | ne =>
      simp only [xcmp, decide_eq_true_eq] at hs
      refine lv_icmp_ne hx hb hd (xjump ht) (fun q => ?_) (fun q => ?_)
      · rw [if_pos q] at hs
        cases hs
        exact K hn hz H locs rl h1 h2 h3 h4
      · rw [if_neg (fun z => z q)] at hs
        cases hs
        exact K hn hz H locs rl h1 h2 h3 h4
    | lt =>
      simp only [xcmp, decide_eq_true_eq] at hs
      refine lv_icmp_lt hx hb hd (xjump ht) (fun q => ?_) (fun q => ?_)
      · rw [if_pos q] at hs
        cases hs
        exact K hn hz H locs rl h1 h2 h3 h4
      · rw [if_neg q] at hs
        cases hs
        exact K hn hz H locs rl h1 h2 h3 h4
    | ge =>
      simp only [xcmp, decide_eq_true_eq] at hs
      refine lv_icmp_ge hx hb hd (xjump ht) (fun q => ?_) (fun q => ?_)
      · rw [if_pos q] at hs
        cases hs
        exact K hn hz H locs rl h1 h2 h3 h4
      · rw [if_neg q] at hs
        cases hs
        exact K hn hz H locs rl h1 h2 h3 h4
    | gt =>
      simp only [xcmp, decide_eq_true_eq] at hs
      refine lv_icmp_gt hx hb hd (xjump ht) (fun q => ?_) (fun q => ?_)
      · rw [if_pos q] at hs
        cases hs
        exact K hn hz H locs rl h1 h2 h3 h4
      · rw [if_neg q] at hs
        cases hs
        exact K hn hz H locs rl h1 h2 h3 h4
    | le =>
      simp only [xcmp, decide_eq_true_eq] at hs
      refine lv_icmp_le hx hb hd (xjump ht) (fun q => ?_) (fun q => ?_)
      · rw [if_pos q] at hs
        cases hs
        exact K hn hz H locs rl h1 h2 h3 h4
      · rw [if_neg q] at hs
        cases hs
        exact K hn hz H locs rl h1 h2 h3 h4
  · cases hs
theorem xs_table {d lo hi : Int} {offs : Array Int} (F : XF p s m args meth c b base dA D cl Ts ty L xs ta lit ldcs cc own ini) (G : XG Ts cl tf ty) (hd : decode cc pc = .ok (raw, n)) (hok : xok Ts cl own tf nf ty ldcs ini pc raw (.tableswitch d lo hi offs, n, x1, x2)) (hs : xstep nf L xs lit mc (.tableswitch d lo hi offs, n, x1, x2) pc ls st h = some (.inl (pc', ls', st', h'))) (K : XK p l e R s m args below meth c Q b base ta dA D cl n0 z0 pc' ls' st' h') : XK p l e R s m args below meth c Q b base ta dA D cl n0 z0 pc ls st h := by
  obtain ⟨hx, hb, hown, hts, hK, hA, hX, hbl, hbs, hini, hTx⟩ := F
  obtain ⟨hcl, ty0, ty1, ty2, ty3, ty5, tyR⟩ := G
  simp only [xstep] at hs
  split at hs
  · obtain ⟨rfl, hd0, ho⟩ := hok
    intro hn hz H locs rl h1 h2 h3 h4
    split at hs
    · rename_i hr
      cases hs
      exact lv_tableOut hx hb hd hr (by omega) (K hn hz H locs rl h1 h2 h3 h4)
    · rename_i hr
      split at hs
      · rename_i q hq
        cases hs
        have hq0 := ho q (by have := Array.mem_of_getElem? hq; simpa using this)
        exact lv_tableIn hx hb hd (fun z => hr (Or.inl z)) (fun z => hr (Or.inr z)) hq (by omega) (K hn hz H locs rl h1 h2 h3 h4)
      · cases hs
  · cases hs
theorem xs_lookup {d : Int} {ps : Array (Int × Int)} (F : XF p s m args meth c b base dA D cl Ts ty L xs ta lit ldcs cc own ini) (G : XG Ts cl tf ty) (hd : decode cc pc = .ok (raw, n)) (hok : xok Ts cl own tf nf ty ldcs ini pc raw (.lookupswitch d ps, n, x1, x2)) (hs : xstep nf L xs lit mc (.lookupswitch d ps, n, x1, x2) pc ls st h = some (.inl (pc', ls', st', h'))) (K : XK p l e R s m args below meth c Q b base ta dA D cl n0 z0 pc' ls' st' h') : XK p l e R s m args below meth c Q b base ta dA D cl n0 z0 pc ls st h := by
  obtain ⟨hx, hb, hown, hts, hK, hA, hX, hbl, hbs, hini, hTx⟩ := F
  obtain ⟨hcl, ty0, ty1, ty2, ty3, ty5, tyR⟩ := G
  simp only [xstep] at hs
  split at hs
  · obtain ⟨rfl, hp, hd0, ho⟩ := hok
    rename_i x st0
    cases hs
    have key : ∀ (qs : List (Int × Int)), (∀ q ∈ qs, 0 ≤ (pc : Int) + q.2) → 0 ≤ (pc : Int) + Op.lookupswitch.offset qs d x.toInt := by
      intro qs
      induction qs with
      | nil => intro _; exact hd0
      | cons q qs ih =>
        intro hq
        obtain ⟨q1, q2⟩ := q
        rw [Op.lookupswitch.offset_cons]
        split
        · exact hq _ List.mem_cons_self
        · exact ih (fun r hr => hq r (List.mem_cons_of_mem _ hr))
    have k0 := key ps.toList ho
    intro hn hz H locs rl h1 h2 h3 h4
    exact lv_lookup hx hb hd hp rfl (by omega) (K hn hz H locs rl h1 h2 h3 h4)
  · cases hs
theorem xs_getf {k : Nat} (F : XF p s m args meth c b base dA D cl Ts ty L xs ta lit ldcs cc own ini) (G : XG Ts cl tf ty) (hd : decode cc pc = .ok (raw, n)) (hok : xok Ts cl own tf nf ty ldcs ini pc raw (.getfield k, n, x1, x2)) (hs : xstep nf L xs lit mc (.getfield k, n, x1, x2) pc ls st h = some (.inl (pc', ls', st', h'))) (K : XK p l e R s m args below meth c Q b base ta dA D cl n0 z0 pc' ls' st' h') : XK p l e R s m args below meth c Q b base ta dA D cl n0 z0 pc ls st h := by
  obtain ⟨hx, hb, hown, hts, hK, hA, hX, hbl, hbs, hini, hTx⟩ := F
  obtain ⟨hcl, ty0, ty1, ty2, ty3, ty5, tyR⟩ := G
  simp only [xstep] at hs
  split at hs
  · split at hs
    · rename_i a st0 _ c0 fs hc
      split at hs
      · rename_i hci
        split at hs
        · rename_i v hv
          cases hs
          subst hci
          obtain ⟨rfl, rfl, r, hr, hk, hw⟩ := hok
          have hr : cl[c0]? = some r := by simpa using hr
          intro hn hz H locs rl h1 h2 h3 h4
          exact va_get hx hb hts (hcl _ _ hr).1 hown hK h3 a (xws_get hc) hr k hk (hts _ hw) (fun _ q => q) (by rw [List.getElem?_map, hv]; rfl) hd (K hn hz H locs rl h1 h2 h3 h4)
        · cases hs
      · cases hs
    · cases hs
  · cases hs
theorem xs_iald (F : XF p s m args meth c b base dA D cl Ts ty L xs ta lit ldcs cc own ini) (G : XG Ts cl tf ty) (hd : decode cc pc = .ok (raw, n)) (hok : xok Ts cl own tf nf ty ldcs ini pc raw (.iaload, n, x1, x2)) (hs : xstep nf L xs lit mc (.iaload, n, x1, x2) pc ls st h = some (.inl (pc', ls', st', h'))) (K : XK p l e R s m args below meth c Q b base ta dA D cl n0 z0 pc' ls' st' h') : XK p l e R s m args below meth c Q b base ta dA D cl n0 z0 pc ls st h := by
  obtain ⟨hx, hb, hown, hts, hK, hA, hX, hbl, hbs, hini, hTx⟩ := F
  obtain ⟨hcl, ty0, ty1, ty2, ty3, ty5, tyR⟩ := G
  simp only [xstep] at hs
  obtain ⟨rfl, hraw⟩ := hok
  split at hs
  · split at hs
    · rename_i i a st0 _ t' n1 f hc
      split at hs
      · rename_i hci
        obtain ⟨rfl, hin⟩ := hci
        cases hs
        intro hn hz H locs rl h1 h2 h3 h4
        have K2 := K hn hz H locs rl h1 h2 h3 h4
        have hcell : H[base + a]? = some (arrV (dA t') n1 (fun j => .int (f j))) := h3 a _ (xws_get hc)
        have harr := (hA t').1 n1 (fun j => .int (f j))
        have hi1 : ¬ (i < 0 ∨ (arrV (dA t') n1 (fun j => .int (f j))).slots.size ≤ i.toNatClampNeg) := by rw [arrV_size]; exact xin_of hin
        have hv := arrV_read (dA t') (fun j => Value.int (f j)) (xin_lt hin)
        rcases hraw with ⟨rfl, rfl⟩ | ⟨rfl, rfl⟩ | ⟨rfl, rfl⟩ | ⟨rfl, rfl⟩
        · rw [ty0] at harr
          exact W.iald hx hb hcell harr (fun q => by cases q) hi1 hv rfl rfl hd K2
        · rw [ty3] at harr
          exact W.cald hx hb hcell harr (fun q => by cases q) hi1 hv rfl rfl hd K2
        · rw [ty1] at harr
          exact W.zald hx hb hcell harr (fun q => by cases q) hi1 hv rfl rfl hd K2
        · rw [ty2] at harr
          exact W.bald hx hb hcell harr (fun q => by cases q) hi1 hv rfl rfl hd K2
      · cases hs
    · cases hs
  · split at hs
    · rename_i hci
      obtain ⟨rfl, hin⟩ := hci
      cases hs
      intro hn hz H locs rl h1 h2 h3 h4
      have K2 := K hn hz H locs rl h1 h2 h3 h4
      rcases hraw with ⟨-, rfl⟩ | ⟨q, -⟩ | ⟨q, -⟩ | ⟨q, -⟩
      · exact va_sld hx hb hX (Nat.lt_of_lt_of_le hbl hbs) (Nat.not_le.mpr hbl) h4 (xin_of hin) hd K2
      · cases q
      · cases q
      · cases q
    · cases hs
  · cases hs
theorem xs_lald (F : XF p s m args meth c b base dA D cl Ts ty L xs ta lit ldcs cc own ini) (G : XG Ts cl tf ty) (hd : decode cc pc = .ok (raw, n)) (hok : xok Ts cl own tf nf ty ldcs ini pc raw (.laload, n, x1, x2)) (hs : xstep nf L xs lit mc (.laload, n, x1, x2) pc ls st h = some (.inl (pc', ls', st', h'))) (K : XK p l e R s m args below meth c Q b base ta dA D cl n0 z0 pc' ls' st' h') : XK p l e R s m args below meth c Q b base ta dA D cl n0 z0 pc ls st h := by
  obtain ⟨hx, hb, hown, hts, hK, hA, hX, hbl, hbs, hini, hTx⟩ := F
  obtain ⟨hcl, ty0, ty1, ty2, ty3, ty5, tyR⟩ := G
  simp only [xstep] at hs
  obtain ⟨rfl, rfl⟩ := hok
  split at hs
  · split at hs
    · rename_i i a st0 _ t' n1 f hc
      split at hs
      · rename_i hci
        obtain ⟨rfl, hin⟩ := hci
        cases hs
        intro hn hz H locs rl h1 h2 h3 h4
        have hcell : H[base + a]? = some (arrV (dA 5) n1 (fun j => .long (f j))) := h3 a _ (xws_get hc)
        have harr := (hA 5).1 n1 (fun j => .long (f j))
        rw [ty5] at harr
        exact W.lald hx hb hcell harr (fun q => by cases q) (by rw [arrV_size]; exact xin_of hin) (arrV_read (dA 5) (fun j => Value.long (f j)) (xin_lt hin)) rfl rfl hd (K hn hz H locs rl h1 h2 h3 h4)
      · cases hs
    · cases hs
  · cases hs
theorem xs_aald (F : XF p s m args meth c b base dA D cl Ts ty L xs ta lit ldcs cc own ini) (G : XG Ts cl tf ty) (hd : decode cc pc = .ok (raw, n)) (hok : xok Ts cl own tf nf ty ldcs ini pc raw (.aaload, n, x1, x2)) (hs : xstep nf L xs lit mc (.aaload, n, x1, x2) pc ls st h = some (.inl (pc', ls', st', h'))) (K : XK p l e R s m args below meth c Q b base ta dA D cl n0 z0 pc' ls' st' h') : XK p l e R s m args below meth c Q b base ta dA D cl n0 z0 pc ls st h := by
  obtain ⟨hx, hb, hown, hts, hK, hA, hX, hbl, hbs, hini, hTx⟩ := F
  obtain ⟨hcl, ty0, ty1, ty2, ty3, ty5, tyR⟩ := G
  simp only [xstep] at hs
  obtain ⟨rfl, rfl⟩ := hok
  split at hs
  · split at hs
    · rename_i i a st0 _ t' n1 f hc
      split at hs
      · rename_i hci
        obtain ⟨h6, h12, hin⟩ := hci
        cases hs
        intro hn hz H locs rl h1 h2 h3 h4
        have hcell : H[base + a]? = some (arrV (dA t') n1 (fun j => va_rf ((f j).map (base + ·)))) := h3 a _ (xws_get hc)
        have harr := (hA t').1 n1 (fun j => va_rf ((f j).map (base + ·)))
        have K2 := K hn hz H locs rl h1 h2 h3 h4
        have e : xv b base ta (va_rf (f i.toNatClampNeg)) = va_rf ((f i.toNatClampNeg).map (base + ·)) := by
          cases f i.toNatClampNeg <;> rfl
        rw [List.map_cons, e] at K2
        exact W.aald hx hb hcell harr (tyR _ h6 h12) (fun q => by cases q) (by rw [arrV_size]; exact xin_of hin) (arrV_read (dA t') (fun j => va_rf ((f j).map (base + ·))) (xin_lt hin)) rfl rfl hd K2
      · cases hs
    · cases hs
  · cases hs
theorem xs_alen (F : XF p s m args meth c b base dA D cl Ts ty L xs ta lit ldcs cc own ini) (G : XG Ts cl tf ty) (hd : decode cc pc = .ok (raw, n)) (hok : xok Ts cl own tf nf ty ldcs ini pc raw (.arraylength, n, x1, x2)) (hs : xstep nf L xs lit mc (.arraylength, n, x1, x2) pc ls st h = some (.inl (pc', ls', st', h'))) (K : XK p l e R s m args below meth c Q b base ta dA D cl n0 z0 pc' ls' st' h') : XK p l e R s m args below meth c Q b base ta dA D cl n0 z0 pc ls st h := by
  obtain ⟨hx, hb, hown, hts, hK, hA, hX, hbl, hbs, hini, hTx⟩ := F
  obtain ⟨hcl, ty0, ty1, ty2, ty3, ty5, tyR⟩ := G
  simp only [xstep] at hs
  obtain ⟨rfl, rfl⟩ := hok
  split at hs
  · split at hs
    · rename_i a st0 _ t' n1 f hc
      cases hs
      intro hn hz H locs rl h1 h2 h3 h4
      have K2 := K hn hz H locs rl h1 h2 h3 h4
      have h5 := h3 a _ (xws_get hc)
      obtain f | f | f | f | f := f
      · exact W.alen (n := Int32.ofNat n1) hx hb h5 ((hA t').1 n1 (fun j => .int (f j))) (by show (arrV _ _ _).slots.size.toInt32 = _; rw [arrV_size] <;> rfl) rfl rfl hd K2
      · exact W.alen (n := Int32.ofNat n1) hx hb h5 ((hA t').1 n1 (fun j => .long (f j))) (by show (arrV _ _ _).slots.size.toInt32 = _; rw [arrV_size] <;> rfl) rfl rfl hd K2
      · exact W.alen (n := Int32.ofNat n1) hx hb h5 ((hA t').1 n1 (fun j => .float (f j))) (by show (arrV _ _ _).slots.size.toInt32 = _; rw [arrV_size] <;> rfl) rfl rfl hd K2
      · exact W.alen (n := Int32.ofNat n1) hx hb h5 ((hA t').1 n1 (fun j => .double (f j))) (by show (arrV _ _ _).slots.size.toInt32 = _; rw [arrV_size] <;> rfl) rfl rfl hd K2
      · exact W.alen (n := Int32.ofNat n1) hx hb h5 ((hA t').1 n1 (fun j => va_rf ((f j).map (base + ·)))) (by show (arrV _ _ _).slots.size.toInt32 = _; rw [arrV_size] <;> rfl) rfl rfl hd K2
    · cases hs
  · cases hs
    intro hn hz H locs rl h1 h2 h3 h4
    exact va_slen hx hb hX (Nat.lt_of_lt_of_le hbl hbs) (Nat.not_le.mpr hbl) h4 hd (K hn hz H locs rl h1 h2 h3 h4)
  · split at hs
    · rename_i j st0 hj
      cases hs
      intro hn hz H locs rl h1 h2 h3 h4
      obtain ⟨i, rfl⟩ : ∃ i, j = 2 * i + 1 := ⟨j / 2, by omega⟩
      have hi : (2 * i + 1) / 2 = i := by omega
      rw [hi] at hj K
      obtain ⟨cell, t1, t2, t3, t4, t5, t6, t7⟩ := ((hTx.1.1 i hj.2).2.2.2).kept h4.2.1
      have e1 : (lit.map List.length).getD i 0 = (lit.getD i []).length := by
        rw [List.getD_eq_getElem?_getD, List.getD_eq_getElem?_getD, List.getElem?_map]
        cases lit[i]? <;> rfl
      rw [e1] at t5
      exact W.alen hx hb t1 t2 t5 rfl rfl hd (K hn hz H locs rl h1 h2 h3 h4)
    · cases hs
  · cases hs
theorem xs_ldc {i : Nat} (F : XF p s m args meth c b base dA D cl Ts ty L xs ta lit ldcs cc own ini) (G : XG Ts cl tf ty) (hd : decode cc pc = .ok (raw, n)) (hok : xok Ts cl own tf nf ty ldcs ini pc raw (.ldc i, n, x1, x2)) (hs : xstep nf L xs lit mc (.ldc i, n, x1, x2) pc ls st h = some (.inl (pc', ls', st', h'))) (K : XK p l e R s m args below meth c Q b base ta dA D cl n0 z0 pc' ls' st' h') : XK p l e R s m args below meth c Q b base ta dA D cl n0 z0 pc ls st h := by
  obtain ⟨hx, hb, hown, hts, hK, hA, hX, hbl, hbs, hini, hTx⟩ := F
  obtain ⟨hcl, ty0, ty1, ty2, ty3, ty5, tyR⟩ := G
  simp only [xstep] at hs
  obtain ⟨rfl, rfl, q, hq, q1, q2, q3⟩ := hok
  split at hs
  · cases hs
    intro hn hz H locs rl h1 h2 h3 h4
    have hZ := hTx.2.1 q hq
    rw [q1, q2, q3] at hZ
    exact va_ldcS hx hb hown hZ hd (K hn hz H locs rl h1 h2 h3 h4)
  · cases hs
theorem xs_gets {i : Nat} (F : XF p s m args meth c b base dA D cl Ts ty L xs ta lit ldcs cc own ini) (G : XG Ts cl tf ty) (hd : decode cc pc = .ok (raw, n)) (hok : xok Ts cl own tf nf ty ldcs ini pc raw (.getstatic i, n, x1, x2)) (hs : xstep nf L xs lit mc (.getstatic i, n, x1, x2) pc ls st h = some (.inl (pc', ls', st', h'))) (K : XK p l e R s m args below meth c Q b base ta dA D cl n0 z0 pc' ls' st' h') : XK p l e R s m args below meth c Q b base ta dA D cl n0 z0 pc ls st h := by
  obtain ⟨hx, hb, hown, hts, hK, hA, hX, hbl, hbs, hini, hTx⟩ := F
  obtain ⟨hcl, ty0, ty1, ty2, ty3, ty5, tyR⟩ := G
  simp only [xstep] at hs
  obtain ⟨rfl, rfl, hw⟩ := hok
  rcases hw with ⟨rfl, hw⟩ | ⟨rfl, hw⟩
  · rw [if_pos rfl] at hs
    cases hs
    intro hn hz H locs rl h1 h2 h3 h4
    exact va_gets hx hb hTx.2.2.1 h4 hown (hts _ hw) (fun _ q => q) hd (K hn hz H locs rl h1 h2 h3 h4)
  · rw [if_neg (by decide)] at hs
    cases hs
    intro hn hz H locs rl h1 h2 h3 h4
    exact va_gets hx hb hTx.2.2.2 h4 hown (hts _ hw) (fun _ q => q) hd (K hn hz H locs rl h1 h2 h3 h4)
theorem xs_tval (F : XF p s m args meth c b base dA D cl Ts ty L xs ta lit ldcs cc own ini) (G : XG Ts cl tf ty) (hd : decode cc pc = .ok (raw, n)) (hok : xok Ts cl own tf nf ty ldcs ini pc raw (.saload, n, x1, x2)) (hs : xstep nf L xs lit mc (.saload, n, x1, x2) pc ls st h = some (.inl (pc', ls', st', h'))) (K : XK p l e R s m args below meth c Q b base ta dA D cl n0 z0 pc' ls' st' h') : XK p l e R s m args below meth c Q b base ta dA D cl n0 z0 pc ls st h := by
  obtain ⟨hx, hb, hown, hts, hK, hA, hX, hbl, hbs, hini, hTx⟩ := F
  obtain ⟨hcl, ty0, ty1, ty2, ty3, ty5, tyR⟩ := G
  simp only [xstep] at hs
  obtain ⟨rfl, rfl, hw⟩ := hok
  split at hs
  · split at hs
    · rename_i j st0 hj
      cases hs
      intro hn hz H locs rl h1 h2 h3 h4
      obtain ⟨i, rfl⟩ : ∃ i, j = 2 * i := ⟨j / 2, by omega⟩
      have hi : 2 * i / 2 = i := by omega
      rw [hi] at hj
      exact vk_getf hx hb (hTx.1.1 i hj.2).2.2.1 h4 hown (hts _ hw) (fun _ q => q) hd (K hn hz H locs rl h1 h2 h3 h4)
    · cases hs
  · cases hs
theorem xs_tcod (F : XF p s m args meth c b base dA D cl Ts ty L xs ta lit ldcs cc own ini) (G : XG Ts cl tf ty) (hd : decode cc pc = .ok (raw, n)) (hok : xok Ts cl own tf nf ty ldcs ini pc raw (.sastore, n, x1, x2)) (hs : xstep nf L xs lit mc (.sastore, n, x1, x2) pc ls st h = some (.inl (pc', ls', st', h'))) (K : XK p l e R s m args below meth c Q b base ta dA D cl n0 z0 pc' ls' st' h') : XK p l e R s m args below meth c Q b base ta dA D cl n0 z0 pc ls st h := by
  obtain ⟨hx, hb, hown, hts, hK, hA, hX, hbl, hbs, hini, hTx⟩ := F
  obtain ⟨hcl, ty0, ty1, ty2, ty3, ty5, tyR⟩ := G
  simp only [xstep] at hs
  obtain ⟨rfl, rfl, hw⟩ := hok
  split at hs
  · split at hs
    · rename_i j st0 hj
      cases hs
      intro hn hz H locs rl h1 h2 h3 h4
      obtain ⟨i, rfl⟩ : ∃ i, j = 2 * i := ⟨j / 2, by omega⟩
      have hi : 2 * i / 2 = i := by omega
      rw [hi] at hj
      exact vk_getf hx hb (hTx.1.1 i hj.2).2.1 h4 hown (hts _ hw) (fun _ q => q) hd (K hn hz H locs rl h1 h2 h3 h4)
    · cases hs
  · cases hs
theorem xs_tbyt (F : XF p s m args meth c b base dA D cl Ts ty L xs ta lit ldcs cc own ini) (G : XG Ts cl tf ty) (hd : decode cc pc = .ok (raw, n)) (hok : xok Ts cl own tf nf ty ldcs ini pc raw (.baload, n, x1, x2)) (hs : xstep nf L xs lit mc (.baload, n, x1, x2) pc ls st h = some (.inl (pc', ls', st', h'))) (K : XK p l e R s m args below meth c Q b base ta dA D cl n0 z0 pc' ls' st' h') : XK p l e R s m args below meth c Q b base ta dA D cl n0 z0 pc ls st h := by
  obtain ⟨hx, hb, hown, hts, hK, hA, hX, hbl, hbs, hini, hTx⟩ := F
  obtain ⟨hcl, ty0, ty1, ty2, ty3, ty5, tyR⟩ := G
  simp only [xstep] at hs
  obtain ⟨rfl, rfl⟩ := hok
  split at hs
  · split at hs
    · rename_i i9 j st0 hj
      cases hs
      intro hn hz H locs rl h1 h2 h3 h4
      obtain ⟨i, rfl⟩ : ∃ i, j = 2 * i + 1 := ⟨j / 2, by omega⟩
      have hi : (2 * i + 1) / 2 = i := by omega
      rw [hi] at hj K
      obtain ⟨cell, t1, t2, t3, t4, t5, t6, t7⟩ := ((hTx.1.1 i hj.2.1).2.2.2).kept h4.2.1
      have e1 : (lit.map List.length).getD i 0 = (lit.getD i []).length := by
        rw [List.getD_eq_getElem?_getD, List.getD_eq_getElem?_getD, List.getElem?_map]
        cases lit[i]? <;> rfl
      rw [e1] at t4 t6
      have h9 := xin_lt hj.2.2
      have h8 := xin_of hj.2.2
      exact W.bald hx hb t1 t2 t3 (fun z => z.elim (fun q => h8 (Or.inl q)) (fun q => absurd (Nat.lt_of_lt_of_le h9 t4) (Nat.not_lt.mpr q))) (t6 _ h9) rfl rfl hd (K hn hz H locs rl h1 h2 h3 h4)
    · cases hs
  · cases hs
theorem xs_oinit {k : Nat} (hsz : ls.length = c.maxLocals) (hfr : 1 ≤ R.frames) (hlo : 120 ≤ R.locals) (F : XF p s m args meth c b base dA D cl Ts ty L xs ta lit ldcs cc own ini) (G : XG Ts cl tf ty) (hd : decode cc pc = .ok (raw, n)) (hok : xok Ts cl own tf nf ty ldcs ini pc raw (.invokespecial k, n, x1, x2)) (hs : xstep nf L xs lit mc (.invokespecial k, n, x1, x2) pc ls st h = some (.inl (pc', ls', st', h'))) (K : XK p l e R s m args below meth c Q b base ta dA D cl n0 z0 pc' ls' st' h') : XK p l e R s m args below meth c Q b base ta dA D cl n0 z0 pc ls st h := by
  obtain ⟨hx, hb, hown, hts, hK, hA, hX, hbl, hbs, hini, hTx⟩ := F
  obtain ⟨hcl, ty0, ty1, ty2, ty3, ty5, tyR⟩ := G
  simp only [xstep] at hs
  obtain ⟨rfl, rfl, hw1, hw2, hw3⟩ := hok
  split at hs
  · split at hs
    rename_i hw8
    cases hs
    intro hn hz H locs rl h1 h2 h3 h4
    refine W.objInit hx hb hown (hts _ hw1) (hts _ hw2) (hts _ hw3) rfl (by show rl.size = _; rw [h1.1, hsz]) rfl hd hfr ?_ (K hn hz H locs rl h1 h2 h3 h4)
    show 2 * 0 + _ + 12 ≤ R.locals
    have e9 : ((st'.map (xv b base ta)).map fun v => v.category).sum = xw st' := by
      unfold xw
      rw [List.map_map]
      congr 1
      apply List.map_congr_left
      intro v _
      exact xv_cat' b base ta v
    omega
    cases hs
  · cases hs
end XPLAIN
end
section
/-! THE INSTRUCTIONS THAT CHANGE THE HEAP -/
section XHEAP
variable {p : Program} {l : Launch} {e : Env} {R : Room} {s : State} {m : MethodId} {args : Array Value} {below : List Frame} {meth : Method} {c : Code} {Q : State → Prop}
variable {b base : Nat} {ta : (Nat → Nat) × Option Nat} {dA : Nat → ClassId} {D : va_G} {cl : List vw_C} {n0 z0 : Nat} {cc : ByteArray} {pc pc' n : Nat} {ls ls' : xL} {st st' : List Value} {h h' : xH} {raw : Instr} {x1 x2 : Nat}
variable {Ts : List Cond} {ty : Nat → FieldType} {own : String} {tf : Nat → Nat → Nat} {ini : Bool}
variable {nf : Nat → List Value} {L : Nat} {xs : Nat → Int32} {mc : Nat → Option Nat} {lit : List (List Int32)} {ldcs : List (String × Nat × String × Nat)}
/-- a value that fits a field in the pure machine does in the real one -/
theorem xfit_of {t : FieldType} {v : Value} (h : xfit (xtc t) v = true) : narrow t (xv b base ta v) = xv b base ta v ∧ fits t (xv b base ta v) = true := by
  cases v with
  | int x =>
    cases t <;> simp [xfit, xtc] at h
    · exact h
    · exact h
    · exact ⟨rfl, rfl⟩
    · rcases h with rfl | rfl <;> exact ⟨rfl, rfl⟩
  | long x => cases t <;> simp [xfit, xtc] at h; exact ⟨rfl, rfl⟩
  | null => cases t <;> simp [xfit, xtc] at h <;> exact ⟨rfl, rfl⟩
  | ref k => cases t <;> simp [xfit, xtc] at h <;> exact ⟨rfl, rfl⟩
  | _ => cases h
theorem xat_i {t n a : Nat} {f : Nat → Int32} {H1 : Heap} (h : H1[base + a]? = some (arrV (dA t) n (fun j => .int (f j)))) : va_at D cl (base + a, xtr b base ta dA (.inl (t, n, .inl f))) H1 := h
theorem xat_l {t n a : Nat} {f : Nat → Int64} {H1 : Heap} (h : H1[base + a]? = some (arrV (dA t) n (fun j => .long (f j)))) : va_at D cl (base + a, xtr b base ta dA (.inl (t, n, .inr (.inl f)))) H1 := h
theorem xat_q {t n a : Nat} {f : Nat → Option Nat} {H1 : Heap} (h : H1[base + a]? = some (arrV (dA t) n (fun j => va_rf ((f j).map (base + ·))))) : va_at D cl (base + a, xtr b base ta dA (.inl (t, n, .inr (.inr (.inr (.inr f)))))) H1 := h
/-- behind a change of one cell that keeps its size -/
theorem xk_set {a : Nat} {c0 c1 : xC} {H1 : Heap} {locs1 : List Loc} {rl : Array Slot} (hc : h[a]? = some c0) (he : xcz c1 = xcz c0) (K : XK p l e R s m args below meth c Q b base ta dA D cl n0 z0 pc' ls st (h.set a c1)) (hn : n0 ≤ h.length) (hz : z0 ≤ xsz h) (h1 : xls b base ta ls rl) (h2 : H1.size = base + h.length) (h3 : va_P D cl ((xws b base ta dA h).set a (base + a, xtr b base ta dA c1)) H1) (h4 : va_S (fun q => base ≤ q) s.heap H1 locs1) : W p l e R s m args below meth c H1 locs1 (h.length - n0) (xsz h - z0) Q (F0 m pc' rl (st.map (xv b base ta))) := by
  have K2 := K (by rw [List.length_set]; exact hn) (by rw [xsz_set hc he]; exact hz) H1 locs1 rl h1 (by rw [List.length_set]; exact h2) (by rw [xws_set]; exact h3) h4
  rw [List.length_set, xsz_set hc he] at K2
  exact K2
/-- behind a new cell -/
theorem xk_new {c1 : xC} {H H1 : Heap} {locs1 : List Loc} {rl : Array Slot} {N : Nat} (K : XK p l e R s m args below meth c Q b base ta dA D cl n0 z0 pc' ls (.ref h.length :: st) (h ++ [c1])) (hN : xcz c1 = N) (hn : n0 ≤ h.length) (hz : z0 ≤ xsz h) (h1 : xls b base ta ls rl) (h2 : H.size = base + h.length) (h3 : va_P D cl (xws b base ta dA h) H) (e1 : va_at D cl (base + h.length, xtr b base ta dA c1) H1) (z1 : H1.size = H.size + 1) (o1 : ∀ q, q < H.size → H1[q]? = H[q]?) (h4 : va_S (fun q => base ≤ q) s.heap H locs1) : W p l e R s m args below meth c H1 locs1 (h.length - n0 + 1) (xsz h - z0 + N) Q (F0 m pc' rl (.ref H.size :: st.map (xv b base ta))) := by
  have hP : va_P D cl (xws b base ta dA (h ++ [c1])) H1 := by
    rw [xws_app]
    refine (h3.kept (fun k q hk => o1 q.1 ((h3 k q hk).lt))).app (fun k q hk => ?_)
    have hz : k < 1 := (List.getElem?_eq_some_iff.mp hk).1
    rw [show k = 0 by omega] at hk
    cases hk
    exact e1
  have K2 := K (by simp; omega) (by rw [xsz_app]; omega) H1 locs1 rl h1 (by rw [z1, h2]; simp; omega) hP ⟨by rw [z1]; exact Nat.le_succ_of_le h4.1, fun q hq hA => (o1 q (Nat.lt_of_lt_of_le hq h4.1)).trans (h4.2.1 q hq hA), h4.2.2⟩
  rw [xsz_app, hN] at K2
  have e2 : (h ++ [c1]).length - n0 = h.length - n0 + 1 := by simp; omega
  have e3 : xsz h + N - z0 = xsz h - z0 + N := by omega
  rw [e2, e3] at K2
  rw [h2]
  exact K2
theorem xs_putf {k : Nat} (F : XF p s m args meth c b base dA D cl Ts ty L xs ta lit ldcs cc own ini) (G : XG Ts cl tf ty) (hd : decode cc pc = .ok (raw, n)) (hok : xok Ts cl own tf nf ty ldcs ini pc raw (.putfield k, n, x1, x2)) (hs : xstep nf L xs lit mc (.putfield k, n, x1, x2) pc ls st h = some (.inl (pc', ls', st', h'))) (hR : h'.length - n0 ≤ R.cells ∧ xsz h' - z0 ≤ R.slots) (K : XK p l e R s m args below meth c Q b base ta dA D cl n0 z0 pc' ls' st' h') : XK p l e R s m args below meth c Q b base ta dA D cl n0 z0 pc ls st h := by
  obtain ⟨hx, hb, hown, hts, hK, hA, hX, hbl, hbs, hini, hTx⟩ := F
  obtain ⟨hcl, ty0, ty1, ty2, ty3, ty5, tyR⟩ := G
  simp only [xstep] at hs
  split at hs
  · split at hs
    · rename_i v a st0 _ c0 fs hc
      split at hs
      · rename_i hci
        obtain ⟨hci, hkl, hfit⟩ := hci
        cases hs
        subst hci
        obtain ⟨rfl, ht, ix, hix, r, hr, hk, hw, hfin⟩ := hok
        have hr : cl[c0]? = some r := by simpa using hr
        have hraw : raw = .putfield ix := by
          split at hix
          · rw [List.mem_singleton.mp hix]
          · cases hix
        subst hraw
        obtain ⟨hin, ⟨ty0', hty⟩, hnm⟩ := hcl _ _ hr
        obtain ⟨C, T, N⟩ := r
        rw [ht, ← (hty k hk).2] at hfit
        obtain ⟨hna, hfi⟩ := xfit_of (b := b) (base := base) (ta := ta) hfit
        intro hn hz H locs rl h1 h2 h3 h4
        have he := xws_get (b := b) (base := base) (ta := ta) (dA := dA) hc
        have hap := va_apart (own := own) hts hin ty0' (fun k hk => (hty k hk).1) hnm hK hr
        obtain ⟨r, g1, cell, q1, q2, q3, q4⟩ := h3 a _ he
        have e0 : r = (C, T, N) := Option.some.inj (g1.symm.trans hr)
        subst e0
        obtain ⟨hS, hfc, kC, hkC, hkind⟩ := hK.1 c0 _ hr
        obtain ⟨cf, kf, fi, f, hi, hsl⟩ := hS k hk
        have hlay := hts _ (hin _ (u_in_lay hk))
        unfold u_lay at hlay
        have hst := (u_facts hfc hkC (u_lays hts hin hk) hi).1
        have fin : ∀ (H' : Heap), H'[base + a]? = some (cell.setSlot (D.2 c0 k) (xv b base ta v)) → H'.size = H.size → (∀ q, q ≠ base + a → H'[q]? = H[q]?) → W p l e R s m args below meth c H' (locs ++ [⟨base + a, D.2 c0 k⟩]) (h.length - n0) (xsz h - z0) Q (F0 m (pc + 3) rl (st'.map (xv b base ta))) := by
          intro H' e1 e2 e3
          refine xk_set hc ?_ K hn hz h1 (e2.trans h2) ?_ (h4.put e2 e3 (Nat.le_add_right _ _))
          · simp [xcz]
          · have hl : k < (fs.map (xv b base ta)).length := by rw [List.length_map]; exact hkl
            have := h3.set (xws_D h) he (e := .inr (c0, (fs.map (xv b base ta)).set k (xv b base ta v))) ⟨_, hr, t_OB.to (V := updV (vp_V (fs.map (xv b base ta))) k (xv b base ta v)) ⟨_, e1, q2, q3, t_set q4 hap hk _⟩ (fun j _ => vp_updV_set hl _ j)⟩ e3
            rw [← List.map_set] at this
            exact this
        rcases hfin with hf | ⟨hf, hi9, hdecl⟩
        · rw [if_neg (by rw [hf]; decide)] at hlay
          have h6 := u_store hfc hkC hkind hlay hi (hty k hk).1 hna hfi
          refine W.putK hx hb (f := f) ⟨hown, hts _ hw, ⟨_, _, _, hi⟩, hst⟩ (by rw [q2]; exact h6) q1 q3 (by rw [hsl]; exact k2_hasslot (q4 k hk)) rfl rfl hd fun H' e1 e2 e3 => ?_
          rw [hsl] at e1 ⊢
          exact fin H' e1 e2 e3
        · rw [if_pos hf] at hlay
          have hcf : m.cls = cf := by
            obtain ⟨_, _, c', _, _, _, -, -, hf', -, -, -, hown2, -⟩ := Cond.laysFinal_spec hlay
            have e1 : c' = cf := by have := hi.symm.trans hf'; simp at this; exact this.1.symm
            rw [hdecl] at hown2
            rw [← e1]; exact Option.some.inj (hown.symm.trans hown2)
          have h6 := u_fits hfc hkC hkind (Or.inr hlay) hi (hty k hk).1 hna hfi
          refine W.putFinK hx hb hown (hts _ hw) hi hst hcf (hini hi9) (by rw [q2]; exact h6) q1 q3 (by rw [hsl]; exact k2_hasslot (q4 k hk)) rfl rfl hd fun H' e1 e2 e3 => ?_
          rw [hsl] at e1 ⊢
          exact fin H' e1 e2 e3
      · cases hs
    · cases hs
  · cases hs
theorem xs_iast (F : XF p s m args meth c b base dA D cl Ts ty L xs ta lit ldcs cc own ini) (G : XG Ts cl tf ty) (hd : decode cc pc = .ok (raw, n)) (hok : xok Ts cl own tf nf ty ldcs ini pc raw (.iastore, n, x1, x2)) (hs : xstep nf L xs lit mc (.iastore, n, x1, x2) pc ls st h = some (.inl (pc', ls', st', h'))) (hR : h'.length - n0 ≤ R.cells ∧ xsz h' - z0 ≤ R.slots) (K : XK p l e R s m args below meth c Q b base ta dA D cl n0 z0 pc' ls' st' h') : XK p l e R s m args below meth c Q b base ta dA D cl n0 z0 pc ls st h := by
  obtain ⟨hx, hb, hown, hts, hK, hA, hX, hbl, hbs, hini, hTx⟩ := F
  obtain ⟨hcl, ty0, ty1, ty2, ty3, ty5, tyR⟩ := G
  simp only [xstep] at hs
  obtain ⟨rfl, hraw⟩ := hok
  split at hs
  · split at hs
    · rename_i x i a st0 _ t' n1 f hc
      split at hs
      · rename_i hci
        obtain ⟨rfl, hin⟩ := hci
        cases hs
        intro hn hz H locs rl h1 h2 h3 h4
        have hcell : H[base + a]? = some (arrV (dA t') n1 (fun j => .int (f j))) := h3 a _ (xws_get hc)
        have harr := (hA t').1 n1 (fun j => .int (f j))
        have hi1 : ¬ (i < 0 ∨ (arrV (dA t') n1 (fun j => .int (f j))).slots.size ≤ i.toNatClampNeg) := by rw [arrV_size]; exact xin_of hin
        rcases hraw with ⟨rfl, rfl⟩ | ⟨rfl, rfl⟩ | ⟨rfl, rfl⟩ | ⟨rfl, rfl⟩
        · rw [ty0] at harr
          refine W.iast hx hb hcell harr (fun q => by cases q) hi1 rfl rfl hd fun H1 e1 z1 oq => ?_
          refine xk_set hc ?_ K hn hz h1 (z1.trans h2) (h3.set (xws_D h) (xws_get hc) ?_ oq) (h4.put z1 oq (Nat.le_add_right _ _))
          · rfl
          refine xat_i ?_
          rw [e1, arrV_store]
          congr 2
          funext q
          by_cases hq : q = i.toNatClampNeg
          · subst hq
            simp [updV, upd, vp_nar, narrow]
          · simp [updV, upd, hq]
        · rw [ty3] at harr
          refine W.cast hx hb hcell harr (fun q => by cases q) hi1 rfl rfl hd fun H1 e1 z1 oq => ?_
          refine xk_set hc ?_ K hn hz h1 (z1.trans h2) (h3.set (xws_D h) (xws_get hc) ?_ oq) (h4.put z1 oq (Nat.le_add_right _ _))
          · rfl
          refine xat_i ?_
          rw [e1, arrV_store]
          congr 2
          funext q
          by_cases hq : q = i.toNatClampNeg
          · subst hq
            simp [updV, upd, vp_nar, narrow]
          · simp [updV, upd, hq]
        · rw [ty1] at harr
          refine W.zast hx hb hcell harr (fun q => by cases q) hi1 rfl rfl hd fun H1 e1 z1 oq => ?_
          refine xk_set hc ?_ K hn hz h1 (z1.trans h2) (h3.set (xws_D h) (xws_get hc) ?_ oq) (h4.put z1 oq (Nat.le_add_right _ _))
          · rfl
          refine xat_i ?_
          rw [e1, arrV_store]
          congr 2
          funext q
          by_cases hq : q = i.toNatClampNeg
          · subst hq
            simp [updV, upd, vp_nar, narrow]
          · simp [updV, upd, hq]
        · rw [ty2] at harr
          refine W.bast hx hb hcell harr (fun q => by cases q) hi1 rfl rfl hd fun H1 e1 z1 oq => ?_
          refine xk_set hc ?_ K hn hz h1 (z1.trans h2) (h3.set (xws_D h) (xws_get hc) ?_ oq) (h4.put z1 oq (Nat.le_add_right _ _))
          · rfl
          refine xat_i ?_
          rw [e1, arrV_store]
          congr 2
          funext q
          by_cases hq : q = i.toNatClampNeg
          · subst hq
            simp [updV, upd, vp_nar, narrow]
          · simp [updV, upd, hq]
      · cases hs
    · cases hs
  · cases hs
theorem xs_last (F : XF p s m args meth c b base dA D cl Ts ty L xs ta lit ldcs cc own ini) (G : XG Ts cl tf ty) (hd : decode cc pc = .ok (raw, n)) (hok : xok Ts cl own tf nf ty ldcs ini pc raw (.lastore, n, x1, x2)) (hs : xstep nf L xs lit mc (.lastore, n, x1, x2) pc ls st h = some (.inl (pc', ls', st', h'))) (hR : h'.length - n0 ≤ R.cells ∧ xsz h' - z0 ≤ R.slots) (K : XK p l e R s m args below meth c Q b base ta dA D cl n0 z0 pc' ls' st' h') : XK p l e R s m args below meth c Q b base ta dA D cl n0 z0 pc ls st h := by
  obtain ⟨hx, hb, hown, hts, hK, hA, hX, hbl, hbs, hini, hTx⟩ := F
  obtain ⟨hcl, ty0, ty1, ty2, ty3, ty5, tyR⟩ := G
  simp only [xstep] at hs
  obtain ⟨rfl, rfl⟩ := hok
  split at hs
  · split at hs
    · rename_i x i a st0 _ t' n1 f hc
      split at hs
      · rename_i hci
        obtain ⟨rfl, hin⟩ := hci
        cases hs
        intro hn hz H locs rl h1 h2 h3 h4
        have hcell : H[base + a]? = some (arrV (dA 5) n1 (fun j => .long (f j))) := h3 a _ (xws_get hc)
        have harr := (hA 5).1 n1 (fun j => .long (f j))
        rw [ty5] at harr
        refine W.last hx hb hcell harr (fun q => by cases q) (by rw [arrV_size]; exact xin_of hin) rfl rfl hd fun H1 e1 z1 oq => ?_
        refine xk_set hc ?_ K hn hz h1 (z1.trans h2) (h3.set (xws_D h) (xws_get hc) ?_ oq) (h4.put z1 oq (Nat.le_add_right _ _))
        · rfl
        refine xat_l ?_
        rw [e1, arrV_store]
        congr 2
        funext q
        by_cases hq : q = i.toNatClampNeg
        · subst hq
          simp [updV, vp_updL]
        · simp [updV, vp_updL, hq]
      · cases hs
    · cases hs
  · cases hs
theorem xs_new {ci : Nat} (F : XF p s m args meth c b base dA D cl Ts ty L xs ta lit ldcs cc own ini) (G : XG Ts cl tf ty) (hd : decode cc pc = .ok (raw, n)) (hok : xok Ts cl own tf nf ty ldcs ini pc raw (.new ci, n, x1, x2)) (hs : xstep nf L xs lit mc (.new ci, n, x1, x2) pc ls st h = some (.inl (pc', ls', st', h'))) (hR : h'.length - n0 ≤ R.cells ∧ xsz h' - z0 ≤ R.slots) (K : XK p l e R s m args below meth c Q b base ta dA D cl n0 z0 pc' ls' st' h') : XK p l e R s m args below meth c Q b base ta dA D cl n0 z0 pc ls st h := by
  obtain ⟨hx, hb, hown, hts, hK, hA, hX, hbl, hbs, hini, hTx⟩ := F
  obtain ⟨hcl, ty0, ty1, ty2, ty3, ty5, tyR⟩ := G
  cases hs
  obtain ⟨rfl, rfl, r, hr, hcl1, hins, hini1, hlen, hfl, hdf⟩ := hok
  have hr : cl[ci]? = some r := by simpa using hr
  obtain ⟨hin, ⟨ty0', hty⟩, hnm⟩ := hcl _ _ hr
  obtain ⟨C, T, N⟩ := r
  intro hn hz H locs rl h1 h2 h3 h4
  have hKn := hK.1 ci _ hr
  have hN : xcz (.inr (ci, nf ci)) = N := hlen
  have hc9 : h.length - n0 + 1 ≤ R.cells := by have := hR.1; simp at this; omega
  have hs9 : xsz h - z0 + N ≤ R.slots := by have := hR.2; rw [xsz_app, hN] at this; omega
  refine W.newcK hx hb hown (hts _ hcl1) (hts _ hins) (hts _ hini1) rfl hd hc9 hs9 hKn.2.1 rfl fun H1 kC hkC e1 z1 o1 => ?_
  refine xk_new (N := N) K hN hn hz h1 h2 h3 ?_ z1 o1 h4
  refine ⟨_, hr, ?_⟩
  rw [← h2]
  refine (u_born ty0' hts hin hKn hkC e1 (fun k hk => (hty k hk).1)).to (fun j hj => ?_)
  have e2 := hdf j hj
  rw [(hty j hj).1] at e2
  have e3 : defaultValue (ty0' j) = (nf ci).getD j .null := Option.some.inj e2
  show _ = ((nf ci).map (xv b base ta)).getD j .null
  have e4 : ((nf ci).map (xv b base ta)).getD j .null = xv b base ta ((nf ci).getD j .null) := by
    rw [List.getD_eq_getElem?_getD, List.getD_eq_getElem?_getD, List.getElem?_map]
    cases (nf ci)[j]? <;> rfl
  rw [e4, ← e3]
  have e5 := hfl j hj
  rw [← (hty j hj).2] at e5
  cases hq : ty0' j <;> first | rfl | (rw [hq] at e5; exact absurd rfl e5)
theorem xs_newa {at_ : ArrayType} (F : XF p s m args meth c b base dA D cl Ts ty L xs ta lit ldcs cc own ini) (G : XG Ts cl tf ty) (hd : decode cc pc = .ok (raw, n)) (hok : xok Ts cl own tf nf ty ldcs ini pc raw (.newarray at_, n, x1, x2)) (hs : xstep nf L xs lit mc (.newarray at_, n, x1, x2) pc ls st h = some (.inl (pc', ls', st', h'))) (hR : h'.length - n0 ≤ R.cells ∧ xsz h' - z0 ≤ R.slots) (K : XK p l e R s m args below meth c Q b base ta dA D cl n0 z0 pc' ls' st' h') : XK p l e R s m args below meth c Q b base ta dA D cl n0 z0 pc ls st h := by
  obtain ⟨hx, hb, hown, hts, hK, hA, hX, hbl, hbs, hini, hTx⟩ := F
  obtain ⟨hcl, ty0, ty1, ty2, ty3, ty5, tyR⟩ := G
  simp only [xstep] at hs
  obtain ⟨rfl, rfl, ht6, hty, hw⟩ := hok
  split at hs
  · rename_i k st0
    split at hs
    · cases hs
    · rename_i hk
      have hk0 : ¬ k < 0 := fun q => hk (Or.inl q)
      have hk1 : k.toNatClampNeg ≤ 100000 := Nat.not_lt.mp fun q => hk (Or.inr q)
      have hcb : componentBytes (Op.newarray.typeOf at_) ≤ 8 := by cases at_ <;> decide
      have hby : k.toNatClampNeg * componentBytes (Op.newarray.typeOf at_) ≤ 536870912 := Nat.le_trans (Nat.mul_le_mul hk1 hcb) (by decide)
      have fin : ∀ (a0 : vp_A), a0.1 = k.toNatClampNeg → (∀ cA : ClassId, vp_cell cA a0 = arrV cA k.toNatClampNeg (fun _ => defaultValue (Op.newarray.typeOf at_))) → xtr b base ta dA (.inl (x1, a0)) = .inl (dA x1, a0) → (h ++ [(.inl (x1, a0) : xC)]).length - n0 ≤ R.cells ∧ xsz (h ++ [(.inl (x1, a0) : xC)]) - z0 ≤ R.slots → XK p l e R s m args below meth c Q b base ta dA D cl n0 z0 (pc + 2) ls (.ref h.length :: st0) (h ++ [.inl (x1, a0)]) → XK p l e R s m args below meth c Q b base ta dA D cl n0 z0 pc ls (.int k :: st0) h := by
        intro a0 ha1 ha2 ha3 hR K hn hz H locs rl h1 h2 h3 h4
        have hc9 : h.length - n0 + 1 ≤ R.cells := by have := hR.1; simp at this; omega
        have hs9 : xsz h - z0 + k.toNatClampNeg ≤ R.slots := by have := hR.2; rw [xsz_app] at this; have e9 : xcz (.inl (x1, a0)) = k.toNatClampNeg := ha1; omega
        refine va_newaK hx hb (hts _ hw) rfl hd rfl hk0 rfl hby hc9 hs9 rfl fun H1 cA e1 z1 o1 hAr hNm => ?_
        have hcA : cA = dA x1 := by
          have h9 := (hA x1).2
          rw [hty] at h9
          have h8 : s.vm.findClass ("[" ++ (Op.newarray.typeOf at_).toString) = some (dA x1) := by cases at_ <;> exact h9
          exact Option.some.inj (hNm.symm.trans h8)
        subst hcA
        refine xk_new (N := k.toNatClampNeg) K ha1 hn hz h1 h2 h3 ?_ z1 o1 h4
        show va_at D cl (base + h.length, xtr b base ta dA (.inl (x1, a0))) H1
        rw [ha3, ← h2]
        show H1[H.size]? = some (vp_cell (dA x1) a0)
        rw [ha2]
        exact e1
      split at hs
      · rename_i h5
        cases hs
        subst h5
        refine fin (k.toNatClampNeg, .inr (.inl (fun _ => 0))) rfl (fun cA => ?_) rfl hR K
        rw [← hty, ty5]
        rfl
      · rename_i h5
        split at hs
        · cases hs
          refine fin (k.toNatClampNeg, .inl (fun _ => 0)) rfl (fun cA => ?_) rfl hR K
          have : ∀ t, t = Op.newarray.typeOf at_ → t = .int ∨ t = .boolean ∨ t = .byte ∨ t = .char ∨ t = .short → vp_cell cA (k.toNatClampNeg, .inl (fun _ => 0)) = arrV cA k.toNatClampNeg (fun _ => defaultValue (Op.newarray.typeOf at_)) := by
            rintro t rfl ht
            rcases ht with ht | ht | ht | ht | ht <;> rw [ht] <;> rfl
          refine this _ rfl ?_
          rw [← hty]
          rcases (show x1 = 0 ∨ x1 = 1 ∨ x1 = 2 ∨ x1 = 3 by omega) with rfl | rfl | rfl | rfl
          · exact Or.inl ty0
          · exact Or.inr (Or.inl ty1)
          · exact Or.inr (Or.inr (Or.inl ty2))
          · exact Or.inr (Or.inr (Or.inr (Or.inl ty3)))
        · cases hs
  · cases hs
/-- the outer array of new T[n][m], behind i rows -/
theorem xouter (c1 : ClassId) (N h0 : Nat) : ∀ i : Nat, Jvm.Free.Multi.outerC c1 N h0 i = arrV c1 N (fun j => va_rf (if j < i then some (h0 + 1 + j) else none)) := by
  intro i
  induction i with
  | zero =>
    show ({ cls := c1, slots := Array.replicate N .null, vm := .none } : Cell) = _
    rw [arrV_new]
    rfl
  | succ i ih =>
    show (Jvm.Free.Multi.outerC c1 N h0 i).setSlot i (.ref (h0 + 1 + i)) = _
    rw [ih, arrV_store]
    refine congrArg (arrV c1 N) (funext fun j => ?_)
    by_cases e1 : j = i
    · subst e1
      simp [updV, va_rf]
    · have e2 : j < i + 1 ↔ j < i := by omega
      simp [updV, e1, e2]
theorem xs_anewa {t : Nat} (F : XF p s m args meth c b base dA D cl Ts ty L xs ta lit ldcs cc own ini) (G : XG Ts cl tf ty) (hd : decode cc pc = .ok (raw, n)) (hok : xok Ts cl own tf nf ty ldcs ini pc raw (.anewarray t, n, x1, x2)) (hs : xstep nf L xs lit mc (.anewarray t, n, x1, x2) pc ls st h = some (.inl (pc', ls', st', h'))) (hR : h'.length - n0 ≤ R.cells ∧ xsz h' - z0 ≤ R.slots) (K : XK p l e R s m args below meth c Q b base ta dA D cl n0 z0 pc' ls' st' h') : XK p l e R s m args below meth c Q b base ta dA D cl n0 z0 pc ls st h := by
  obtain ⟨hx, hb, hown, hts, hK, hA, hX, hbl, hbs, hini, hTx⟩ := F
  obtain ⟨hcl, ty0, ty1, ty2, ty3, ty5, tyR⟩ := G
  simp only [xstep] at hs
  obtain ⟨rfl, rfl, hm⟩ := hok
  split at hs
  · rename_i k st0
    split at hs
    · cases hs
    · rename_i hk
      have hk0 : ¬ k < 0 := fun q => hk (Or.inl q)
      have hk1 : k.toNatClampNeg ≤ 100000 := Nat.not_lt.mp fun q => hk (Or.inr q)
      cases hs
      split at hm
      · rename_i C hty
        intro hn hz H locs rl h1 h2 h3 h4
        have hc9 : h.length - n0 + 1 ≤ R.cells := by have := hR.1; simp at this; omega
        have hs9 : xsz h - z0 + k.toNatClampNeg ≤ R.slots := by have := hR.2; rw [xsz_app] at this; have e9 : xcz (.inl (t, k.toNatClampNeg, .inr (.inr (.inr (.inr (fun _ => none)))))) = k.toNatClampNeg := rfl; omega
        refine W.anew hx hb hown (hts _ hm.1) (hts _ hm.2) rfl hd rfl hk0 (by omega) hc9 hs9 fun cA kA comp f1 f2 f3 f4 => ?_
        have hcA : cA = dA t := by
          have h9 := (hA t).2
          rw [hty] at h9
          obtain ⟨_, _, -, -, -, h8⟩ := h9
          exact Option.some.inj (f1.symm.trans h8)
        subst hcA
        refine xk_new (N := k.toNatClampNeg) K rfl hn hz h1 h2 h3 ?_ (by simp) (fun q hq => by rw [Array.getElem?_push, if_neg (Nat.ne_of_lt hq)]) h4
        refine xat_q ?_
        rw [← h2, arrV_new]
        simp [va_rf]
      · cases hm
  · cases hs
theorem xs_aast (F : XF p s m args meth c b base dA D cl Ts ty L xs ta lit ldcs cc own ini) (G : XG Ts cl tf ty) (hd : decode cc pc = .ok (raw, n)) (hok : xok Ts cl own tf nf ty ldcs ini pc raw (.aastore, n, x1, x2)) (hs : xstep nf L xs lit mc (.aastore, n, x1, x2) pc ls st h = some (.inl (pc', ls', st', h'))) (hR : h'.length - n0 ≤ R.cells ∧ xsz h' - z0 ≤ R.slots) (K : XK p l e R s m args below meth c Q b base ta dA D cl n0 z0 pc' ls' st' h') : XK p l e R s m args below meth c Q b base ta dA D cl n0 z0 pc ls st h := by
  obtain ⟨hx, hb, hown, hts, hK, hA, hX, hbl, hbs, hini, hTx⟩ := F
  obtain ⟨hcl, ty0, ty1, ty2, ty3, ty5, tyR⟩ := G
  simp only [xstep] at hs
  obtain ⟨rfl, rfl, hty⟩ := hok
  split at hs
  · split at hs
    · rename_i v i a st0 _ _ t' n1 f c0 fs hc hv
      split at hs
      · rename_i hci
        obtain ⟨rfl, h6, h12, rfl, hin⟩ := hci
        cases hs
        split at hty
        · rename_i r hr
          intro hn hz H locs rl h1 h2 h3 h4
          have hcell : H[base + a]? = some (arrV (dA t') n1 (fun j => va_rf ((f j).map (base + ·)))) := h3 a _ (xws_get hc)
          obtain ⟨r', hr', cellV, g1, g2, g3, -⟩ := h3 v _ (xws_get hv)
          have hcls := (hK.1 c0 r hr).2
          have hra := (hA t').2
          rw [hty] at hra
          obtain ⟨kA, comp, k1, k2, k3, -⟩ := hra
          have hcomp : comp = D.1 c0 := Option.some.inj (k3.symm.trans hcls.1)
          subst hcomp
          obtain ⟨kC, hkC, -⟩ := hcls.2
          refine W.aast hx hb hcell (fun q h => by cases h) (fun h => by cases h) k1 k2 rfl hkC ⟨fun q => xin_of hin (Or.inl q), by rw [arrV_size]; exact xin_lt hin⟩ g1 (fun q h => by rw [g3] at h; cases h) (by rw [g2]; exact hkC) (by rw [g2]; exact va_assign hcls) rfl rfl hd fun H1 e1 z1 oq => ?_
          refine xk_set hc ?_ K hn hz h1 (z1.trans h2) (h3.set (xws_D h) (xws_get hc) ?_ oq) (h4.put z1 oq (Nat.le_add_right _ _))
          · rfl
          refine xat_q ?_
          rw [e1, arrV_store]
          congr 2
          funext q
          by_cases hq : q = i.toNatClampNeg
          · subst hq
            simp [updV, va_up, va_rf]
          · simp [updV, va_up, hq]
        · cases hty
      · cases hs
    · cases hs
  · cases hs
theorem xs_manewa {t t' : Nat} (F : XF p s m args meth c b base dA D cl Ts ty L xs ta lit ldcs cc own ini) (G : XG Ts cl tf ty) (hd : decode cc pc = .ok (raw, n)) (hok : xok Ts cl own tf nf ty ldcs ini pc raw (.multianewarray t t', n, x1, x2)) (hs : xstep nf L xs lit mc (.multianewarray t t', n, x1, x2) pc ls st h = some (.inl (pc', ls', st', h'))) (hR : h'.length - n0 ≤ R.cells ∧ xsz h' - z0 ≤ R.slots) (K : XK p l e R s m args below meth c Q b base ta dA D cl n0 z0 pc' ls' st' h') : XK p l e R s m args below meth c Q b base ta dA D cl n0 z0 pc ls st h := by
  obtain ⟨hx, hb, hown, hts, hK, hA, hX, hbl, hbs, hini, hTx⟩ := F
  obtain ⟨hcl, ty0, ty1, ty2, ty3, ty5, tyR⟩ := G
  simp only [xstep] at hs
  obtain ⟨rfl, rfl, rfl, hty, hw1, hw2, hw3⟩ := hok
  split at hs
  · rename_i k' k st0
    split at hs
    · cases hs
    · rename_i hk
      have hk0 : ¬ k < 0 := fun q => hk (Or.inl q)
      have hk1 : k.toNatClampNeg ≤ 1000 := Nat.not_lt.mp fun q => hk (Or.inr (Or.inl q))
      have hk2 : ¬ k' < 0 := fun q => hk (Or.inr (Or.inr (Or.inl q)))
      have hk3 : k'.toNatClampNeg ≤ 1000 := Nat.not_lt.mp fun q => hk (Or.inr (Or.inr (Or.inr q)))
      cases hs
      intro hn hz H locs rl h1 h2 h3 h4 T hT X
      generalize hN : k.toNatClampNeg = N at *
      generalize hM : k'.toNatClampNeg = M at *
      have hsz : xsz (h ++ ((.inl (t, N, .inr (.inr (.inr (.inr (fun i => if i < N then some (h.length + 1 + i) else none))))) : xC) :: List.replicate N (.inl (0, M, .inl (fun _ => 0))))) = xsz h + N + N * M := by
        simp [xsz, xcz, Nat.add_assoc]
      have hln : (h ++ ((.inl (t, N, .inr (.inr (.inr (.inr (fun i => if i < N then some (h.length + 1 + i) else none))))) : xC) :: List.replicate N (.inl (0, M, .inl (fun _ => 0))))).length = h.length + 1 + N := by
        simp; omega
      have hc9 : h.length - n0 + (1 + N) ≤ R.cells := by have := hR.1; rw [hln] at this; omega
      have hs9 : xsz h - z0 + (N + N * M) ≤ R.slots := by have := hR.2; rw [hsz] at this; omega
      obtain ⟨vm₁, cA, comp, -, fA, fC, -, -, X', step⟩ := X.multianewarray2F hx (ty := .int) hown (hts _ hw1) (hts _ hw2) (hts _ hw3) (g := F0 m pc rl (.int k' :: .int k :: st0.map (xv b base ta))) rfl (by rw [hb]; exact hd) rfl hk0 hk2 (by rw [hN]; omega) (by rw [hM]; show M * 4 ≤ _; omega) (by rw [hM]; omega) rfl rfl (by rw [hN]; exact hc9) (by rw [hN, hM]; exact hs9)
      rw [hN, hM] at X' step
      have hcA : cA = dA t := by
        have h9 := (hA t).2
        rw [hty] at h9
        exact Option.some.inj (fA.symm.trans h9)
      have hcC : comp = dA 0 := by
        have h9 := (hA 0).2
        rw [ty0] at h9
        exact Option.some.inj (fC.symm.trans h9)
      subst hcA
      subst hcC
      have hTh : (T.setVm vm₁).heap = H := hT
      obtain ⟨f1, f2, -, -⟩ := Jvm.Free.Multi.fill_facts (T.setVm vm₁) (dA t) (dA 0) N M (defaultValue .int) N
      have hold : ∀ x : Nat, x < H.size → (Jvm.Free.Multi.fill (T.setVm vm₁) (dA t) (dA 0) N M (defaultValue .int) N).heap[x]? = H[x]? := fun x hx => by
        have := Jvm.Free.Multi.fill_old (T.setVm vm₁) (dA t) (dA 0) N M (defaultValue .int) (a := x) (by rw [hTh]; exact hx) N
        rw [hTh] at this
        exact this
      have hrow : ∀ j : Nat, j < N → (Jvm.Free.Multi.fill (T.setVm vm₁) (dA t) (dA 0) N M (defaultValue .int) N).heap[H.size + 1 + j]? = some (arrV (dA 0) M (fun _ => .int 0)) := fun j hj => by
        have := Jvm.Free.Multi.fill_inner (T.setVm vm₁) (dA t) (dA 0) N M (defaultValue .int) N j hj
        rw [hTh] at this
        rw [this]
        show some ({ cls := dA 0, slots := Array.replicate M (.int 0), vm := .none } : Cell) = _
        rw [arrV_new]
      rw [hTh] at f1 f2
      rw [xouter] at f2
      generalize Jvm.Free.Multi.fill (T.setVm vm₁) (dA t) (dA 0) N M (defaultValue .int) N = F at *
      have K2 := K (by rw [hln]; omega) (by rw [hsz]; omega) F.heap locs rl h1 (by rw [f1, hln, h2]; omega) (fun kk q hq => ?_) ⟨by rw [f1]; have := h4.1; omega, fun q hq hA => (hold q (Nat.lt_of_lt_of_le hq h4.1)).trans (h4.2.1 q hq hA), h4.2.2⟩
      · rw [hln, hsz] at K2
        have e1 : h.length + 1 + N - n0 = h.length - n0 + 1 + N := by omega
        have e2 : xsz h + N + N * M - z0 = xsz h - z0 + N + N * M := by omega
        rw [e1, e2] at K2
        obtain ⟨t1, a1, b1⟩ := K2 F rfl X'
        refine ⟨t1, step t1 ?_, b1⟩
        rw [hT, h2]
        exact a1
      · obtain ⟨c1, hc1, rfl⟩ := xws_inv hq
        by_cases hkk : kk < h.length
        · rw [List.getElem?_append_left hkk] at hc1
          exact (h3 kk _ (xws_get hc1)).kept (hold _ (by show base + kk < _; omega))
        · rw [List.getElem?_append_right (Nat.not_lt.mp hkk)] at hc1
          by_cases hk9 : kk - h.length = 0
          · rw [hk9] at hc1
            cases hc1
            have : kk = h.length := by omega
            subst this
            refine xat_q ?_
            rw [← h2, f2]
            refine congrArg some (congrArg (arrV (dA t) N) (funext fun j => ?_))
            by_cases hj : j < N
            · simp [hj, va_rf, h2, Nat.add_assoc]
            · simp [hj]
          · obtain ⟨jj, hjj⟩ : ∃ jj, kk - h.length = jj + 1 := ⟨kk - h.length - 1, by omega⟩
            rw [hjj, List.getElem?_cons_succ] at hc1
            have hlt : jj < N := by
              have := (List.getElem?_eq_some_iff.mp hc1).1
              simpa using this
            rw [List.getElem?_replicate, if_pos hlt] at hc1
            cases hc1
            refine xat_i ?_
            have e9 : base + kk = H.size + 1 + jj := by omega
            rw [e9]
            exact hrow jj hlt
  · cases hs
end XHEAP
end
section
/-! THE ENDS OF A METHOD -/
/-- what has come about when a method, begun in the state s over the frames below, has ended: r: how; h': the pure heap behind it -/
def XQ (below : List Frame) (s : State) (b base : Nat) (ta : (Nat → Nat) × Option Nat) (dA : Nat → ClassId) (D : va_G) (cl : List vw_C) (n0 z0 : Nat) (r : xO) (h' : xH) (t : State) : Prop :=
  ∃ (o : Outcome) (locs : List Loc), t.status = .running ∧ Ended t below o ∧ s.WarmedH t.vm ∧ s.sameButNew ({ t with vm := s.vm } : State) locs (h'.length - n0) (xsz h' - z0) ∧ t.heap.size = base + h'.length ∧ va_P D cl (xws b base ta dA h') t.heap ∧ va_S (fun q => base ≤ q) s.heap t.heap locs ∧
    (match r with | .inl v => o = .returned (v.map (xv b base ta)) | .inr (_, a) => o = .threw (base + a))
/-- the method's type of result fits the instruction that ends it -/
def xokR (ret : Option FieldType) (o : xI) : Prop := match o with
  | (.ireturn, _, t, _) => ∃ ft ∈ ret.toList, xtc ft = t
  | (.areturn, _, _, _) => ∃ ft ∈ ret.toList, xtc ft = 6
  | (.return_, _, _, _) => ret = none
  | _ => True
section XENDS
variable {p : Program} {l : Launch} {e : Env} {R : Room} {s : State} {m : MethodId} {args : Array Value} {below : List Frame} {meth : Method} {c : Code}
variable {b base : Nat} {ta : (Nat → Nat) × Option Nat} {dA : Nat → ClassId} {D : va_G} {cl : List vw_C} {n0 z0 : Nat} {cc : ByteArray} {pc n : Nat} {ls : xL} {st : List Value} {h h' : xH} {raw : Instr} {x1 x2 : Nat} {r : xO}
variable {Ts : List Cond} {ty : Nat → FieldType} {own : String} {tf : Nat → Nat → Nat} {ini : Bool} {ret : Option FieldType}
variable {nf : Nat → List Value} {L : Nat} {xs : Nat → Int32} {mc : Nat → Option Nat} {lit : List (List Int32)} {ldcs : List (String × Nat × String × Nat)}
theorem W.mono {Q Q' : State → Prop} {H : Heap} {locs : List Loc} {cells slots : Nat} {g : JFrame} (hQ : ∀ t, Q t → Q' t) (k : W p l e R s m args below meth c H locs cells slots Q g) : W p l e R s m args below meth c H locs cells slots Q' g := fun T hT X => by
  obtain ⟨t, a1, b1⟩ := k T hT X
  exact ⟨t, a1, hQ t b1⟩
/-- out of the kit's end of a method that returns -/
theorem xq_of {H : Heap} {locs : List Loc} {v : Option Value} (h2 : H.size = base + h.length) (h3 : va_P D cl (xws b base ta dA h) H) (h4 : va_S (fun q => base ≤ q) s.heap H locs) (t : State)
    (hM : MQ below (fun _ _ o t => o = .returned (v.map (xv b base ta)) ∧ t.heap = H) args s (h.length - n0) (xsz h - z0) (fun q => base ≤ q) t) : XQ below s b base ta dA D cl n0 z0 (.inl v) h t := by
  obtain ⟨o, hr, he, ⟨ho, ht⟩, L9, ⟨-, hW, hS⟩, hL⟩ := hM
  refine ⟨o, L9, hr, he, hW, hS, by rw [ht]; exact h2, by rw [ht]; exact h3, ⟨by rw [ht]; exact h4.1, fun q hq hA => by rw [ht]; exact h4.2.1 q hq hA, hL⟩, ho⟩
theorem xs_ends (F : XF p s m args meth c b base dA D cl Ts ty L xs ta lit ldcs cc own ini) (hret : meth.sig.returnType = ret) (hlocks : meth.locks = false) {o : xI} (ho : o.1 = .ireturn ∨ o.1 = .areturn ∨ o.1 = .return_) (hd : decode cc pc = .ok (raw, o.2.1)) (hok : xok Ts cl own tf nf ty ldcs ini pc raw o) (hokR : xokR ret o) (hs : xstep nf L xs lit mc o pc ls st h = some (.inr (.inl (r, h')))) : XK p l e R s m args below meth c (XQ below s b base ta dA D cl n0 z0 r h') b base ta dA D cl n0 z0 pc ls st h := by
  obtain ⟨hx, hb, hown, hts, hK, hA, hX, hbl, hbs, hini, hTx⟩ := F
  obtain ⟨i1, n1, x1, x2⟩ := o
  rcases ho with ho | ho | ho
  · have ho : i1 = .ireturn := ho
    subst ho
    simp only [xstep] at hs
    obtain ⟨rfl, rfl⟩ := hok
    obtain ⟨ft, hft, htc⟩ := hokR
    have hft : ret = some ft := by simpa using hft
    split at hs
    · rename_i x
      split at hs
      · rename_i hfit
        cases hs
        intro hn hz H locs rl h1 h2 h3 h4
        rw [← htc] at hfit
        have hna := (xfit_of (b := b) (base := base) (ta := ta) hfit).1
        exact W.mono (xq_of (v := some (.int x)) h2 h3 h4) (W.zret hx hb (hret.trans hft) hna (fun t ht hW => ⟨rfl, ht⟩) h4.2.2 hd hlocks)
      · cases hs
    · cases hs
  · have ho : i1 = .areturn := ho
    subst ho
    simp only [xstep] at hs
    obtain ⟨rfl, rfl⟩ := hok
    obtain ⟨ft, hft, htc⟩ := hokR
    have hft : ret = some ft := by simpa using hft
    split at hs
    · rename_i v
      split at hs
      · rename_i hv
        cases hs
        intro hn hz H locs rl h1 h2 h3 h4
        have hrt : (∃ n, ft = .object n) ∨ ∃ t, ft = .array t := by
          cases ft <;> simp [xtc] at htc
          · exact Or.inl ⟨_, rfl⟩
          · exact Or.inr ⟨_, rfl⟩
        obtain ⟨a, ha⟩ := xv_ref (b := b) (base := base) (ta := ta) hv
        refine W.mono (xq_of (args := args) (v := some v) h2 h3 h4) ?_
        show W p l e R s m args below meth c H locs _ _ _ (F0 m pc rl [xv b base ta v])
        exact W.aret hx hb (hret.trans hft) hrt (Or.inr ⟨a, ha⟩) (fun t ht hW => ⟨rfl, ht⟩) h4.2.2 hd hlocks
      · cases hs
    · cases hs
  · have ho : i1 = .return_ := ho
    subst ho
    simp only [xstep] at hs
    obtain ⟨rfl, rfl⟩ := hok
    have hokR : ret = none := hokR
    split at hs
    · cases hs
      intro hn hz H locs rl h1 h2 h3 h4
      exact W.mono (xq_of (v := none) h2 h3 h4) (W.vret hx hb (hret.trans hokR) (fun t ht hW => ⟨rfl, ht⟩) h4.2.2 hd hlocks)
    · cases hs
end XENDS
end
section
/-! CALLS -/
/-- a word that stays true when more of the tables has been linked -/
def xgw (w : Cond) : Bool := goodWord w || (match w with | .methodLinkNest .. => true | .declares _ => true | .castable .. => true | .arrayOver (.object _) => true | .arrayOver (.array _) => true | _ => false)
theorem xgw_at {w : Cond} {args a' : Array Value} {s U : State} (hW : s.WarmedH U.vm) (hg : xgw w = true) (h : w.before args s = true) : w.before a' U = true := by
  unfold xgw at hg
  rcases Bool.or_eq_true _ _ |>.mp hg with h1 | h1
  · exact word_at hW (good_of_word h1) h
  · cases w with
    | arrayOver t =>
      cases t with
      | object C => exact va_AO.use (va_AO.moved hW.alike (va_AO.of h))
      | array t => exact over_moved hW.alike h
      | _ => cases h1
    | methodLinkNest a i x h9 => exact va_Nw.use rfl (va_Nw.warmM hW (va_Nw.of rfl h))
    | declares x => exact va_Nw.use rfl (va_Nw.warmD hW (va_Nw.of rfl h))
    | castable C T => exact va_Nw.use rfl (va_Nw.warmC hW (va_Nw.of rfl h))
    | _ => cases h1
/-- a method's code by the tables, with its handlers -/
def XY (Ts : List Cond) (y : MethodName) (bytes : ByteArray) (maxL : Nat) (ret : Option FieldType) (hdl : List (Nat × Nat × Nat × Nat)) : Prop := (hdl = [] ∧ Cond.code y bytes maxL ret ∈ Ts) ∨ Cond.codeWith y bytes maxL ret hdl ∈ Ts
theorem xy_spec {Ts : List Cond} {y : MethodName} {bytes : ByteArray} {maxL : Nat} {ret : Option FieldType} {hdl : List (Nat × Nat × Nat × Nat)} {args : Array Value} {s : State} (h : XY Ts y bytes maxL ret hdl) (hts : ∀ w ∈ Ts, w.before args s = true) :
    ∃ mk meth c, s.methodNamed? y = some mk ∧ s.vm.method? mk = some meth ∧ meth.code = some c ∧ c.code = bytes ∧ c.maxLocals = maxL ∧ c.exceptionTable.toList.map (fun h => (h.startPc, h.endPc, h.handlerPc, h.catchType)) = hdl ∧ meth.sig.returnType = ret ∧ meth.locks = false ∧ parseMethodDescriptor y.desc = some meth.sig := by
  rcases h with ⟨rfl, h⟩ | h
  · have hc := hts _ h
    obtain ⟨mk, hn⟩ := Cond.code_named hc
    obtain ⟨meth, c, h1, h2, h3, h4, h5, h6, h7, h8⟩ := Cond.code_spec hn hc
    refine ⟨mk, meth, c, hn, h1, h2, h3, h4, ?_, h5, h6, h8⟩
    have : c.exceptionTable = #[] := by simpa using h7
    rw [this]
    rfl
  · obtain ⟨mk, meth, c, h0, h1, h2, h3, h4, h5, h6, h7, h8⟩ := Cond.codeWith_spec (hts _ h)
    exact ⟨mk, meth, c, h0, h1, h2, h3, h4, h5, h6, h7, h8⟩
/-- the linked call o stands for the instruction raw in a method of the class own -/
def xokC (Ts : List Cond) (cl : List vw_C) (own host : String) (yM : Nat → MethodName) (mc : Nat → Option Nat) (raw : Instr) (o : xI) : Prop := match o with
  | (.invokeinterface j ix, n, k, kd) => n = 3 ∧ ((yM j).cls ≠ "java/lang/invoke/MethodHandle" ∧ (yM j).cls ≠ "java/lang/invoke/VarHandle") ∧ Cond.initialized (yM j).cls ∈ Ts ∧
    ((kd = 0 ∧ raw = .invokestatic ix ∧ mc j = none ∧ Cond.methodLink own ix (yM j) ∈ Ts ∧ Cond.static (yM j) ∈ Ts ∧ (parseMethodDescriptor (yM j).desc).map (fun d => d.parameters.length) = some k) ∨
     (kd = 1 ∧ raw = .invokevirtual ix ∧ Cond.methodLink own ix (yM j) ∈ Ts ∧ Cond.instanceMethod (yM j) ∈ Ts ∧ Cond.selects (yM j).cls (yM j) (yM j) ∈ Ts ∧ ((∃ ci ∈ (mc j).toList, ci ≠ 1000 ∧ ∃ r ∈ (cl[ci]?).toList, r.1 = (yM j).cls) ∨ (mc j = some 1000 ∧ cl[1000]? = none ∧ (yM j).cls = "java/lang/String")) ∧ (parseMethodDescriptor (yM j).desc).map (fun d => d.parameters.length + 1) = some k) ∨
     (kd = 2 ∧ raw = .invokespecial ix ∧ (yM j).name = "<init>" ∧ (mc j).isSome = true ∧ Cond.methodLink own ix (yM j) ∈ Ts ∧ Cond.instanceMethod (yM j) ∈ Ts ∧ (parseMethodDescriptor (yM j).desc).map (fun d => d.parameters.length + 1) = some k) ∨
     (kd = 3 ∧ raw = .invokespecial ix ∧ (yM j).name = "<init>" ∧ (mc j).isSome = true ∧ Cond.methodLinkNest own ix (yM j) host ∈ Ts ∧ Cond.instanceMethod (yM j) ∈ Ts ∧ (parseMethodDescriptor (yM j).desc).map (fun d => d.parameters.length + 1) = some k))
  | _ => False
section XCALLS
variable {p : Program} {l : Launch} {e : Env} {R : Room} {s : State} {m : MethodId} {args : Array Value} {below : List Frame} {meth : Method} {c : Code} {T : State} {locs : List Loc} {cells slots : Nat}
variable {b base : Nat} {ta : (Nat → Nat) × Option Nat} {dA : Nat → ClassId} {D : va_G} {cl : List vw_C} {Ts : List Cond} {own host : String} {yM : Nat → MethodName} {mc : Nat → Option Nat} {raw : Instr} {j ix n k kd : Nat} {h : xH} {lit : List (List Int32)} {ldcs : List (String × Nat × String × Nat)}
/-- up to the callee's entry -/
theorem xinvoke (X : Stand p l e R s m args below meth c T locs cells slots) (hx : p.tables.exec = Jvm.exec) (hown : s.vm.findClass own = some m.cls) (hts : ∀ w ∈ Ts, w.before args s = true) (hK : va_K D cl [] s) (hP : va_P D cl (xws b base ta dA h) T.heap) (hTx : XTx base ta lit ldcs s) (hS : va_S (fun q => base ≤ q) s.heap T.heap locs)
    {bytes : ByteArray} {maxL : Nat} {ret : Option FieldType} {hdl : List (Nat × Nat × Nat × Nat)} (hY : XY Ts (yM j) bytes maxL ret hdl) (hnl : (yM j).name = "<init>" → ret = none ∧ hdl = [] ∧ Cond.code (yM j) bytes maxL ret ∈ Ts) (hC : xokC Ts cl own host yM mc raw (.invokeinterface j ix, n, k, kd))
    {as rest : List Value} (hk : as.length = k) (hm : ∀ ci, mc j = some ci → (∃ a as' fs, as = .ref a :: as' ∧ h[a]? = some (.inr (ci, fs))) ∨ (ci = 1000 ∧ ∃ i as', i < lit.length ∧ as = .retAddr (2 * i + 1) :: as'))
    {g : JFrame} (hg : g.method = m) (hstack : g.stack = (as.map (xv b base ta)).reverse ++ rest) (hdg : decode c.code g.pc = .ok (raw, 3)) :
    ∃ (mk : MethodId) (vm' : Vm), s.methodNamed? (yM j) = some mk ∧ s.WarmedH vm' ∧ Stand p l e R s m args below meth c (T.setVm vm') locs cells slots ∧
      ∀ target, (∀ acts, Steps p.tables e below (doInvoke e ((T.setVm vm').setTop { g with stack := rest }) acts mk (as.map (xv b base ta)).toArray).1 target) → Steps p.tables e below (T.setTop g) target := by
  obtain ⟨rfl, hy, hini, hC⟩ := hC
  obtain ⟨mk, methM, cM, hnamed, hmethM, -, -, -, -, -, -, hsigM⟩ := xy_spec hY hts
  have hlen : ∀ z, (parseMethodDescriptor (yM j).desc).map (fun d => d.parameters.length + z) = some k → methM.sig.parameters.length + z = k := fun z hz => by
    rw [hsigM] at hz
    exact Option.some.inj hz
  have hrecv : ∀ ci, mc j = some ci → ∃ (a : Nat) (as' : List Value), as.map (xv b base ta) = .ref a :: as'.map (xv b base ta) ∧ as.length = as'.length + 1 := by
    intro ci hci
    rcases hm ci hci with ⟨a, as', fs, rfl, -⟩ | ⟨-, i, as', -, rfl⟩
    · exact ⟨base + a, as', rfl, rfl⟩
    · exact ⟨ta.1 (2 * i), as', rfl, rfl⟩
  rcases hC with ⟨-, rfl, hmc, hl, hst, hp⟩ | ⟨-, rfl, hl, hin, hse, hcc, hp⟩ | ⟨-, rfl, hnm, hmc, hl, hin, hp⟩ | ⟨-, rfl, hnm, hmc, hl, hin, hp⟩
  · have hstatic : methM.isStatic = true := Cond.static_spec hnamed hmethM (hts _ hst)
    obtain ⟨kP, hkP, -⟩ := className_of_methodNamed hnamed
    have hinitP : kP.init = .initialized := Cond.initialized_spec (findClass_of_methodNamed hnamed) hkP (hts _ hini)
    obtain ⟨vm₁, X₁, hstep₁⟩ := X.invokestatic hx hown (hts _ hl) hnamed hmethM hstatic hkP hinitP hy (g := g) hg (argsL := as.map (xv b base ta)) (rest := rest) (by rw [List.length_map, hk]; exact (hlen 0 hp).symm) hstack hdg
    exact ⟨mk, vm₁, hnamed, X₁.warmed, X₁, hstep₁⟩
  · obtain ⟨a, as', e1, e2, cellB, hcB, hoB, hclB⟩ : ∃ (a : Nat) (as' : List Value), as.map (xv b base ta) = .ref a :: as'.map (xv b base ta) ∧ as.length = as'.length + 1 ∧ ∃ cellB : Cell, T.heap[a]? = some cellB ∧ cellB.vm.isStatics = false ∧ s.vm.findClass (yM j).cls = some cellB.cls := by
      rcases hcc with ⟨ci, hci, hne, r, hr, hrC⟩ | ⟨hci, h1000, hS9⟩
      · have hci : mc j = some ci := by simpa using hci
        have hr : cl[ci]? = some r := by simpa using hr
        rcases hm ci hci with ⟨a, as', fs, rfl, ha⟩ | ⟨h9, -⟩
        · obtain ⟨cellB, hcB, hoB, hclB⟩ := va_recv hK hP hr (xws_get ha)
          rw [hrC] at hclB
          exact ⟨base + a, as', rfl, rfl, cellB, hcB, hoB, hclB⟩
        · exact absurd h9 hne
      · rcases hm 1000 hci with ⟨a, as', fs, rfl, ha⟩ | ⟨-, i, as', hi, rfl⟩
        · obtain ⟨r9, hr9, -⟩ := hP a _ (xws_get ha)
          rw [h1000] at hr9
          cases hr9
        · obtain ⟨cellB, hcB, hoB, hclB⟩ := vk_recv hTx.1 hi hS
          exact ⟨ta.1 (2 * i), as', rfl, rfl, cellB, hcB, hoB, by rw [hS9]; exact hclB⟩
    obtain ⟨mk', methM', hnamed', hmethM', hstM, habM⟩ := Cond.instanceMethod_spec (hts _ hin)
    cases hnamed.symm.trans hnamed'
    cases hmethM.symm.trans hmethM'
    obtain ⟨c2, r2, m2, q1, q2, q3, q4, kP, hkP, hkPi⟩ := Cond.selects_spec (hts _ hse)
    cases hclB.symm.trans q1
    cases (State.methodFound?_of_named hnamed hy).symm.trans q2
    cases hnamed.symm.trans q3
    have hselP : selectMethod e.platform s.vm cellB.cls mk = .method mk := by rw [Launch.admits_selectMethod X.admits]; exact q4
    rw [e1] at hstack ⊢
    obtain ⟨vm₁, X₁, hstep₁⟩ := X.invokevirtual hx hown (hts _ hl) hnamed hmethM hstM hkP hkPi hy (a := a) (cell := cellB) hcB
      (fun z h => by rw [h] at hoB; cases hoB) hselP hmethM habM hkP hkPi (g := g) hg (argsL := as'.map (xv b base ta)) (rest := rest) (by have := hlen 1 hp; rw [List.length_map]; omega) (by rw [hstack]; simp) hdg
    exact ⟨mk, vm₁, hnamed, X₁.warmed, X₁, hstep₁⟩
  · obtain ⟨ci, hci⟩ := Option.isSome_iff_exists.mp hmc
    obtain ⟨a, as', e1, e2⟩ := hrecv ci hci
    obtain ⟨rfl, rfl, hcode⟩ := hnl hnm
    subst hg
    rw [e1] at hstack ⊢
    have hpl : e.platform.magicAccessors = ({} : Platform).magicAccessors := by rw [X.admits.platform]
    obtain ⟨mk', methM', cM', kP, vm₁, hnamed', -, -, -, -, -, -, -, hW₁, hstep₁⟩ := Steps.initColdArgs (e := e) X.here hx X.warmed hpl hown hnm hy (hts _ hl) (hts _ hin) (hts _ hcode) (f := g) rfl (a := a) (argsL := as'.map (xv b base ta)) (rest := rest) (fun sig h => by rw [hsigM] at h; cases h; have := hlen 1 hp; rw [List.length_map]; omega) (by rw [hstack]; simp) hdg
    exact ⟨mk', vm₁, hnamed', hW₁, X.noted hW₁, hstep₁⟩
  · obtain ⟨ci, hci⟩ := Option.isSome_iff_exists.mp hmc
    obtain ⟨a, as', e1, e2⟩ := hrecv ci hci
    obtain ⟨rfl, rfl, hcode⟩ := hnl hnm
    subst hg
    rw [e1] at hstack ⊢
    have hpl : e.platform.magicAccessors = ({} : Platform).magicAccessors := by rw [X.admits.platform]
    obtain ⟨mk', methM', cM', kP, vm₁, hnamed', -, -, -, -, -, -, -, hW₁, hstep₁⟩ := Steps.initColdArgsNest (e := e) X.here hx X.warmed hpl hown hnm hy (hts _ hl) (hts _ hin) (hts _ hcode) (f := g) rfl (a := a) (argsL := as'.map (xv b base ta)) (rest := rest) (fun sig h => by rw [hsigM] at h; cases h; have := hlen 1 hp; rw [List.length_map]; omega) (by rw [hstack]; simp) hdg
    exact ⟨mk', vm₁, hnamed', hW₁, X.noted hW₁, hstep₁⟩
end XCALLS
end
section
/-! A CALL AS A WHOLE: into the callee by its own run, and out of it, returned or thrown -/
theorem xsteps_down {tb : Tables} {e : Env} {g : Frame} {below : List Frame} {s t : State} (h : Steps tb e (g :: below) s t) : Steps tb e below s t := by
  obtain ⟨n, h1, h2⟩ := h
  exact ⟨n, h1, fun k hk => Within.weaken (mid := [g]) (h2 k hk)⟩
/-- what a throw asks of Throwable's two statics -/
def xU4 : List Cond := [.isRef (.static Bundle.tN "UNASSIGNED_STACK" Bundle.steD), .isRef (.static Bundle.tN "SUPPRESSED_SENTINEL" Bundle.listD), .laysStatic Bundle.tN "UNASSIGNED_STACK" Bundle.steD, .laysStatic Bundle.tN "SUPPRESSED_SENTINEL" Bundle.listD]
/-- it holds now, and in every later state that keeps what lies below base -/
def XU (base : Nat) (s : State) : Prop := ∀ (a' : Array Value) (U : State), s.WarmedH U.vm → (∀ q, q < base → U.heap[q]? = s.heap[q]?) → ∀ c ∈ xU4, c.before a' U = true
theorem XU.go {base : Nat} {s U : State} (h : XU base s) (hW : s.WarmedH U.vm) (hq : ∀ q, q < base → U.heap[q]? = s.heap[q]?) : XU base U := fun a' V hV hv => h a' V (State.WarmedH.trans hW hV) (fun q hl => (hv q hl).trans (hq q hl))
/-- pairs of classes of which the first can't be cast to the second: now, and in every later state -/
def XV (nc : List (String × String)) (s : State) : Prop := ∀ q ∈ nc, ∀ (a' : Array Value) (U : State), s.WarmedH U.vm → (Cond.not (.castable q.1 q.2)).before a' U = true
theorem XV.go {nc : List (String × String)} {s U : State} (h : XV nc s) (hW : s.WarmedH U.vm) : XV nc U := fun q hq a' V hV => h q hq a' V (State.WarmedH.trans hW hV)
section XENTRY
variable (p : Program) (l : Launch) (e : Env) (b base : Nat) (ta : (Nat → Nat) × Option Nat) (lit : List (List Int32)) (ldcs : List (String × Nat × String × Nat)) (dA : Nat → ClassId) (D : va_G) (cl : List vw_C) (Ts : List Cond) (ty : Nat → FieldType) (L : Nat) (xs : Nat → Int32)
variable (yM : Nat → MethodName) (cM : Nat → ByteArray) (mx : Nat → Nat) (rM : Nat → Option FieldType) (hM : Nat → List (Nat × Nat × Nat × Nat)) (nc : List (String × String))
/-- what holds at the entry of the method j -/
def XE (s : State) (m : MethodId) (args : Array Value) (meth : Method) (c : Code) (j : Nat) : Prop :=
  XF p s m args meth c b base dA D cl Ts ty L xs ta lit ldcs (cM j) (yM j).cls (decide ((yM j).name = "<init>")) ∧ meth.sig.returnType = rM j ∧ meth.locks = false ∧ c.maxLocals = mx j ∧ c.exceptionTable.toList.map (fun h => (h.startPc, h.endPc, h.handlerPc, h.catchType)) = hM j ∧ XU base s ∧ XV nc s
/-- the method j, called with the arguments as on the heap h, ends so: r, h'; d: the frames that it may lay -/
def XGood (d j : Nat) (as : List Value) (h : xH) (r : xO) (h' : xH) : Prop :=
  ∀ (R : Room) (s : State) (m : MethodId) (below : List Frame) (meth : Method) (c : Code), XE p b base ta lit ldcs dA D cl Ts ty L xs yM cM mx rM hM nc s m (as.map (xv b base ta)).toArray meth c j → d + 8 ≤ R.frames → 64 * d + 200 ≤ R.locals → h'.length - h.length ≤ R.cells → xsz h' - xsz h ≤ R.slots → s.heap.size = base + h.length → va_P D cl (xws b base ta dA h) s.heap →
    W p l e R s m (as.map (xv b base ta)).toArray below meth c s.heap [] 0 0 (XQ below s b base ta dA D cl h.length (xsz h) r h') (entryFrame m (as.map (xv b base ta)).toArray (mx j))
/-- what holds of the methods' tables: their code is the tables' -/
def XMt : Prop := (∀ w ∈ Ts, xgw w = true) ∧ (∀ j, Cond.static (yM j) ∈ Ts ∨ Cond.instanceMethod (yM j) ∈ Ts → XY Ts (yM j) (cM j) (mx j) (rM j) (hM j) ∧ ((yM j).name = "<init>" → rM j = none ∧ hM j = [] ∧ Cond.code (yM j) (cM j) (mx j) (rM j) ∈ Ts) ∧ plainName (yM j).cls = true ∧ mx j ≤ 40)
end XENTRY
section XCALL
variable {p : Program} {l : Launch} {e : Env} {R : Room} {s : State} {m : MethodId} {args : Array Value} {below : List Frame} {meth : Method} {c : Code} {Q : State → Prop}
variable {b base : Nat} {ta : (Nat → Nat) × Option Nat} {dA : Nat → ClassId} {D : va_G} {cl : List vw_C} {n0 z0 : Nat} {pc pc' : Nat} {ls : xL} {st st' : List Value} {h h1 : xH} {raw : Instr}
variable {Ts : List Cond} {ty : Nat → FieldType} {host : String}
variable {nf : Nat → List Value} {L : Nat} {xs : Nat → Int32} {mc : Nat → Option Nat} {lit : List (List Int32)} {ldcs : List (String × Nat × String × Nat)}
variable {yM : Nat → MethodName} {cM : Nat → ByteArray} {mx : Nat → Nat} {rM : Nat → Option FieldType} {hM : Nat → List (Nat × Nat × Nat × Nat)} {nc : List (String × String)}
/-- an exception at the place a has come out of the callee, over the caller's frame at pc -/
def XT (p : Program) (l : Launch) (e : Env) (R : Room) (s : State) (m : MethodId) (args : Array Value) (below : List Frame) (meth : Method) (c : Code) (Q : State → Prop) (b base : Nat) (ta : (Nat → Nat) × Option Nat) (dA : Nat → ClassId) (D : va_G) (cl : List vw_C) (n0 z0 : Nat) (pc : Nat) (ls : xL) (st : List Value) (h : xH) (a : Nat) : Prop :=
  ∀ (H : Heap) (locs : List Loc) (rl : Array Slot), xls b base ta ls rl → H.size = base + h.length → va_P D cl (xws b base ta dA h) H → va_S (fun q => base ≤ q) s.heap H locs →
    ∀ T : State, T.heap = H → Stand p l e R s m args below meth c T locs (h.length - n0) (xsz h - z0) → ∃ t, Steps p.tables e below ((T.setTop (F0 m pc rl (st.map (xv b base ta)))).pushFrame (.throwing (base + a))) t ∧ Q t
/-- what a call in the pure machine says of its operands -/
theorem xcall_spec {j ix n k kd j' : Nat} {as : List Value} (hs : xstep nf L xs lit mc (.invokeinterface j ix, n, k, kd) pc ls st h = some (.inr (.inr (j', as, pc', st')))) : j' = j ∧ pc' = pc + n ∧ st = as.reverse ++ st' ∧ as.length = k ∧ xw st' ≤ 8 ∧ ∀ ci, mc j = some ci → (∃ a as' fs, as = .ref a :: as' ∧ h[a]? = some (.inr (ci, fs))) ∨ (ci = 1000 ∧ ∃ i as', i < lit.length ∧ as = .retAddr (2 * i + 1) :: as') := by
  simp only [xstep] at hs
  split at hs
  · rename_i hk
    have hst : st = st.take k ++ st.drop k := (List.take_append_drop k st).symm
    have hl : (st.take k).length = k := by rw [List.length_take]; omega
    split at hs
    · rename_i hmc
      cases hs
      refine ⟨rfl, rfl, by rw [List.reverse_reverse]; exact hst, by rw [List.length_reverse]; exact hl, hk.2, fun ci hci => by rw [hmc] at hci; cases hci⟩
    · rename_i ci hmc
      split at hs
      · rename_i a as0 he
        split at hs
        · rename_i c0 fs hc
          split at hs
          · rename_i hcc
            subst hcc
            cases hs
            refine ⟨rfl, rfl, ?_, ?_, hk.2, fun ci2 hci => ?_⟩
            · rw [← he, List.reverse_reverse]
              exact hst
            · rw [← he, List.length_reverse]
              exact hl
            · rw [hmc] at hci
              cases hci
              exact Or.inl ⟨a, as0, fs, rfl, hc⟩
          · cases hs
        · cases hs
      · rename_i q as0 he
        split at hs
        · rename_i hq
          cases hs
          refine ⟨rfl, rfl, ?_, ?_, hk.2, fun ci2 hci => ?_⟩
          · rw [← he, List.reverse_reverse]
            exact hst
          · rw [← he, List.length_reverse]
            exact hl
          · rw [hmc] at hci
            cases hci
            refine Or.inr ⟨hq.1, q / 2, as0, hq.2.2, ?_⟩
            rw [show 2 * (q / 2) = q by omega]
        · cases hs
      · cases hs
  · cases hs
theorem xw_map (b base : Nat) (ta : (Nat → Nat) × Option Nat) (st : List Value) : ((st.map (xv b base ta)).map fun v => v.category).sum = xw st := by
  unfold xw
  rw [List.map_map]
  congr 1
  apply List.map_congr_left
  intro v _
  exact xv_cat' b base ta v
set_option maxHeartbeats 1000000 in
theorem xs_call {i d j ix n k kd : Nat} {as : List Value} {rc : xO} (E : XE p b base ta lit ldcs dA D cl Ts ty L xs yM cM mx rM hM nc s m args meth c i) (M : XMt Ts yM cM mx rM hM) (hd : decode (cM i) pc = .ok (raw, n)) (hC : xokC Ts cl (yM i).cls host yM mc raw (.invokeinterface j ix, n, k, kd))
    (hs : xstep nf L xs lit mc (.invokeinterface j ix, n, k, kd) pc ls st h = some (.inr (.inr (j, as, pc', st')))) (IH : XGood p l e b base ta lit ldcs dA D cl Ts ty L xs yM cM mx rM hM nc d j as h rc h1)
    (hfr : d + 9 ≤ R.frames) (hlo : 64 * (d + 1) + 200 ≤ R.locals) (hm1 : h.length ≤ h1.length) (hm2 : xsz h ≤ xsz h1) (hR : h1.length - n0 ≤ R.cells ∧ xsz h1 - z0 ≤ R.slots) (hsz : ls.length = mx i)
    (kr : ∀ v, rc = .inl v → XK p l e R s m args below meth c Q b base ta dA D cl n0 z0 pc' ls (v.toList ++ st') h1) (kt : ∀ q a, rc = .inr (q, a) → XT p l e R s m args below meth c Q b base ta dA D cl n0 z0 pc ls st' h1 a) :
    XK p l e R s m args below meth c Q b base ta dA D cl n0 z0 pc ls st h := by
  obtain ⟨⟨hx, hb, hown, hts, hK, hA, hX, hbl, hbs, -, hTx⟩, -, -, hml, -, hU, hV⟩ := E
  obtain ⟨hG, hM9⟩ := M
  have hcal : Cond.static (yM j) ∈ Ts ∨ Cond.instanceMethod (yM j) ∈ Ts := by
    rcases hC.2.2.2 with ⟨-, -, -, -, q, -⟩ | ⟨-, -, -, q, -⟩ | ⟨-, -, -, -, -, q, -⟩ | ⟨-, -, -, -, -, q, -⟩
    · exact Or.inl q
    · exact Or.inr q
    · exact Or.inr q
    · exact Or.inr q
  obtain ⟨hY, hnl, hpl, hmx⟩ := hM9 j hcal
  obtain ⟨-, rfl, hst, hk, hw8, hmc⟩ := xcall_spec hs
  intro hn hz H locs rl g1 g2 g3 g4 T hT X
  have hn3 : n = 3 := hC.1
  subst hn3
  rw [← hb] at hd
  obtain ⟨mk, vm', hnamed, hW', X₁, step⟩ := xinvoke X hx hown hts hK (by rw [hT]; exact g3) hTx (by rw [hT]; exact g4) hY hnl hC hk hmc (g := F0 m pc rl (st.map (xv b base ta))) (rest := st'.map (xv b base ta)) rfl (by show st.map _ = _; rw [hst, List.map_append, List.map_reverse]) hd
  have hts' : ∀ (a' : Array Value) (U : State), s.WarmedH U.vm → ∀ w ∈ Ts, w.before a' U = true := fun a' U hU w hw => xgw_at hU (hG w hw) (hts w hw)
  have hnamed1 : (T.setVm vm').methodNamed? (yM j) = some mk := X₁.named hnamed
  obtain ⟨mk2, methk, ck, hnk, hmk, hck, hcb, hcl, hch, hrk, hlk, hsg⟩ := xy_spec hY (hts' #[] (T.setVm vm') hW')
  cases hnamed1.symm.trans hnk
  have hpk : (T.setVm vm').plainMethod mk := by
    intro kk hkk
    obtain ⟨k2, hk2, hk3⟩ := className_of_methodNamed hnamed1
    cases hkk.symm.trans hk2
    exact plain_of_name (by rw [hk3]; exact hpl)
  have hc9 : h.length - n0 ≤ R.cells := by have := hR.1; omega
  have hs9 : xsz h - z0 ≤ R.slots := by have := hR.2; omega
  obtain ⟨Y, hinto⟩ := X₁.into (g := F0 m pc rl (st'.map (xv b base ta))) rfl (by show rl.size = _; rw [g1.1, hsz, hml]) hd (as.map (xv b base ta)).toArray (R' := { frames := R.frames - 1, cells := R.cells - (h.length - n0), slots := R.slots - (xsz h - z0), locals := R.locals - (8 + (mx j + 11)) }) hmk hck hlk hpk
    (by show R.frames - 1 + 1 ≤ _; omega) (by show 2 * 0 + _ + (ck.maxLocals + 11) + (R.locals - (8 + (mx j + 11))) ≤ _; rw [xw_map, hcl]; omega) (by show _ + (R.cells - _) ≤ _; omega) (by show _ + (R.slots - _) ≤ _; omega)
  generalize hs' : (T.setVm vm').calling (F0 m pc rl (st'.map (xv b base ta))) mk (as.map (xv b base ta)).toArray = s' at Y
  have hvm : s'.vm = vm' := by rw [← hs']; rfl
  have hhp : s'.heap = H := by rw [← hs']; exact hT
  have hWs : s.WarmedH s'.vm := by rw [hvm]; exact hW'
  have hWT : (T.setVm vm').vm.Alike s'.vm := by rw [hvm]; exact Vm.Alike.refl _
  have hnm' : s'.methodNamed? (yM j) = some mk := by
    rw [← hnamed1]
    show State.methodNamed? s' _ = State.methodNamed? (T.setVm vm') _
    unfold State.methodNamed?
    rw [hvm]
    rfl
  have hXE : XE p b base ta lit ldcs dA D cl Ts ty L xs yM cM mx rM hM nc s' mk (as.map (xv b base ta)).toArray methk ck j := by
    refine ⟨⟨hx, hcb, findClass_of_methodNamed hnm', hts' _ s' hWs, va_K.moved hWs.alike hK, fun t => ⟨arrOfT_moved hWs.alike (hA t).1, (hA t).2.moved hWs.alike⟩, ?_, hbl, by rw [hhp, g2]; omega, fun hq => ?_, hTx.go hWs (fun q hq hA9 => by rw [hhp]; exact g4.2.1 q hq hA9)⟩, hrk, hlk, hcl, hch, hU.go hWs (fun q hq => by rw [hhp]; exact g4.2.1 q (Nat.lt_of_lt_of_le hq hbs) (Nat.not_le.mpr hq)), hV.go hWs⟩
    · rw [hhp]
      exact va_X.moved hWs.alike (hX.kept (g4.2.1 b (Nat.lt_of_lt_of_le hbl hbs) (Nat.not_le.mpr hbl)))
    · rw [(name_of_methodNamed hnamed1 hmk).1]
      exact of_decide_eq_true hq
  have WI := IH { frames := R.frames - 1, cells := R.cells - (h.length - n0), slots := R.slots - (xsz h - z0), locals := R.locals - (8 + (mx j + 11)) } s' mk (.java (F0 m pc rl (st'.map (xv b base ta))) :: below) methk ck hXE (by show d + 8 ≤ R.frames - 1; omega) (by show 64 * d + 200 ≤ R.locals - (8 + (mx j + 11)); omega) (by show _ ≤ R.cells - _; have := hR.1; omega) (by show _ ≤ R.slots - _; have := hR.2; omega) (by rw [hhp]; exact g2) (by rw [hhp]; exact g3)
  obtain ⟨t, st1, o, L9, hrun, hend, hWt, hsame, t2, t3, t4, ho⟩ := WI _ (by rw [hhp]; exact hT) Y
  rw [← hcl, ← hinto []] at st1
  have st2 := xsteps_down st1
  have hS : va_S (fun q => base ≤ q) s.heap t.heap (locs ++ L9) := by
    rw [hhp] at t4
    refine ⟨Nat.le_trans g4.1 t4.1, fun q hq hA9 => (t4.2.1 q (Nat.lt_of_lt_of_le hq g4.1) hA9).trans (g4.2.1 q hq hA9), fun q hq => ?_⟩
    rcases List.mem_append.mp hq with hq | hq
    · exact g4.2.2 q hq
    · exact t4.2.2 q hq
  have ec : h.length - n0 + (h1.length - h.length) = h1.length - n0 := by omega
  have es : xsz h - z0 + (xsz h1 - xsz h) = xsz h1 - z0 := by omega
  rw [← hs'] at hWt hsame
  cases rc with
  | inl v =>
    have ho : o = .returned (v.map (xv b base ta)) := ho
    subst ho
    obtain ⟨T2, X2, -, -, ht⟩ := X₁.outOf (g := F0 m pc rl (st'.map (xv b base ta))) rfl hd hend hWt hsame
    rw [ec, es] at X2
    have hh : T2.heap = t.heap := by rw [ht]; rfl
    have K := kr v rfl (by omega) (by omega) t.heap (locs ++ L9) rl g1 t2 t3 hS T2 hh X2
    obtain ⟨t5, a5, b5⟩ := K
    refine ⟨t5, step t5 (fun acts => ?_), b5⟩
    rw [doInvoke_state]
    refine st2.trans ?_
    rw [ht]
    have e9 : (v.map (xv b base ta)).toList ++ st'.map (xv b base ta) = (v.toList ++ st').map (xv b base ta) := by cases v <;> simp
    show Steps p.tables e below (T2.setTop (F0 m (pc + 3) rl ((v.map (xv b base ta)).toList ++ st'.map (xv b base ta)))) t5
    rw [e9]
    exact a5
  | inr qa =>
    obtain ⟨q, a⟩ := qa
    have ho : o = .threw (base + a) := ho
    subst ho
    obtain ⟨T2, X2, -, -, ht⟩ := X₁.outOfThrown (g := F0 m pc rl (st'.map (xv b base ta))) rfl hend hWt hsame
    rw [ec, es] at X2
    have hh : T2.heap = t.heap := by rw [ht]; rfl
    obtain ⟨t5, a5, b5⟩ := kt q a rfl t.heap (locs ++ L9) rl g1 t2 t3 hS T2 hh X2
    refine ⟨t5, step t5 (fun acts => ?_), b5⟩
    rw [doInvoke_state]
    refine st2.trans ?_
    rw [ht]
    exact a5
end XCALL
end
section
/-! A THROW -/
section XREBASE
variable {p : Program} {l : Launch} {e : Env} {R : Room} {s : State} {m : MethodId} {args : Array Value} {below : List Frame} {meth : Method} {c : Code} {T : State} {locs : List Loc} {cells slots : Nat}
/-- the same walk, as if the invocation had begun in its present state -/
theorem xrebase (X : Stand p l e R s m args below meth c T locs cells slots) (hc : cells ≤ R.cells) (hs : slots ≤ R.slots) : Stand p l e { frames := R.frames, cells := R.cells - cells, slots := R.slots - slots, locals := R.locals } (T.setFrames (.invoking m args :: below)) m args below meth c T [] 0 0 := by
  obtain ⟨g₀, hfr⟩ := X.frames_eq
  have hcur : T.cur < T.threads.size := State.cur_lt_of_frames hfr
  have hf : (T.setFrames (.invoking m args :: below)).frames = .invoking m args :: below := State.frames_setFrames _ hcur
  have hm : T.vm.method? m = some meth := X.method'
  have hr := X.room
  simp only [State.hasRoom, Bool.and_eq_true, decide_eq_true_eq] at hr
  obtain ⟨⟨⟨⟨r1, r2, r3, r4, r5, r6⟩, r7⟩, r8⟩, r9⟩ := hr
  rw [State.localsInUse_invoking X.frames X.method X.code] at r1 r4 r5
  rw [X.frames] at r2 r3
  refine ⟨X.admits, X.cas, X.clock, hf, ?_, ?_, hm, X.code, X.here, X.tail, State.WarmedH.refl _, (State.stackLimits_setFrames _ _ _).symm, (State.stackBytes_setFrames _ _).symm, ?_⟩
  · simp only [State.hasRoom, Bool.and_eq_true, decide_eq_true_eq]
    rw [State.localsInUse_invoking hf hm X.code, hf, State.stackLimits_setFrames, State.stackBytes_setFrames, X.limits, X.bytes]
    have h1 := X.heapSize
    have h2 := X.used
    refine ⟨⟨⟨⟨r1, r2, r3, r4, r5, r6⟩, ?_⟩, ?_⟩, X.book⟩
    · show T.heap.size + (R.cells - cells) ≤ _
      omega
    · show T.slotsUsed + (R.slots - slots) ≤ _
      omega
  · have hh := X.hears
    cases below with
    | nil =>
      simp only [State.hears] at hh ⊢
      show (T.vm.method? m).any _ = true
      rw [X.warmed.alike.method?]
      exact hh
    | cons f r =>
      cases f with
      | java g =>
        simp only [State.hears] at hh ⊢
        have e1 : (T.setFrames (.invoking m args :: .java g :: r)).code? g.method = s.code? g.method := by
          rw [State.code?_eq, State.code?_eq]
          show (T.vm.method? g.method).bind _ = _
          rw [X.warmed.alike.method?]
        rw [e1]
        exact hh
      | native g => rfl
      | proc g => rfl
      | _ =>
        simp only [State.hears] at hh ⊢
        show (T.vm.method? m).any _ = true
        rw [X.warmed.alike.method?]
        exact hh
  · obtain ⟨th, hth, -⟩ := State.frames_cons hf
    obtain ⟨th0, hth0, -⟩ := State.frames_cons hfr
    have h := (State.sameButNew.refl (T.setFrames (.invoking m args :: below)) hth).setFrames T.frames (State.cur_lt_of_frames hf)
    rw [State.setFrames_setFrames, State.setFrames_self hth0] at h
    exact h
end XREBASE
/-- the linked throw o stands for 'throw new E()' at pc: its first number: the constructor's entry; then E's class; then the entry of 'new' -/
def xokT (Ts : List Cond) (cl : List vw_C) (own : String) (cc : ByteArray) (pc : Nat) (o : xI) : Prop := match o with
  | (.athrow, ic, ei, ix) => decode cc pc = .ok (.new ix, 3) ∧ decode cc (pc + 3) = .ok (.dup, 1) ∧ decode cc (pc + 3 + 1) = .ok (.invokespecial ic, 3) ∧ decode cc (pc + 3 + 1 + 3) = .ok (.athrow, 1) ∧
    ∃ r ∈ (cl[ei]?).toList, r.2.2 = 0 ∧ Cond.classLink own ix r.1 ∈ Ts ∧ Cond.initialized r.1 ∈ Ts ∧ Cond.instantiable r.1 6 ∈ Ts ∧ Bundle.fit r.1 = true ∧ ∀ w ∈ Bundle.ownAtoms0 own ic r.1 ["java/lang/RuntimeException", "java/lang/Exception"], w ∈ Ts ∨ w ∈ xU4
  | _ => False
section XTHROW
variable {p : Program} {l : Launch} {e : Env} {R : Room} {s : State} {m : MethodId} {args : Array Value} {below : List Frame} {meth : Method} {c : Code}
variable {b base : Nat} {ta : (Nat → Nat) × Option Nat} {dA : Nat → ClassId} {D : va_G} {cl : List vw_C} {n0 z0 : Nat} {cc : ByteArray} {pc : Nat} {ls : xL} {st : List Value} {h h' : xH} {r : xO}
variable {Ts : List Cond} {ty : Nat → FieldType} {own : String} {ini : Bool}
variable {nf : Nat → List Value} {L : Nat} {xs : Nat → Int32} {mc : Nat → Option Nat} {lit : List (List Int32)} {ldcs : List (String × Nat × String × Nat)}
set_option maxHeartbeats 1000000 in
theorem xs_throw {ic ei ix : Nat} (F : XF p s m args meth c b base dA D cl Ts ty L xs ta lit ldcs cc own ini) (hG : ∀ w ∈ Ts, xgw w = true) (hU : XU base s) (htr : e.platform.stackTraces = false) (hlocks : meth.locks = false) (hno : c.exceptionTable.toList = []) (hsz : ls.length = c.maxLocals)
    (hok : xokT Ts cl own cc pc (.athrow, ic, ei, ix)) (hs : xstep nf L xs lit mc (.athrow, ic, ei, ix) pc ls st h = some (.inr (.inl (r, h')))) (hfr : 8 ≤ R.frames) (hlo : 200 ≤ R.locals) (hR : h'.length - n0 ≤ R.cells ∧ xsz h' - z0 ≤ R.slots) :
    XK p l e R s m args below meth c (XQ below s b base ta dA D cl n0 z0 r h') b base ta dA D cl n0 z0 pc ls st h := by
  obtain ⟨hx, hb, hown, hts, hK, hA, hX, hbl, hbs, hini, hTx⟩ := F
  obtain ⟨d0, d3, d4, d7, q, hq, hq0, w1, w2, w3, hfit, hat⟩ := hok
  have hq : cl[ei]? = some q := by simpa using hq
  simp only [xstep] at hs
  split at hs
  · rename_i hw8
    cases hs
    intro hn hz H locs rl g1 g2 g3 g4 T hT X
    have hl1 : (h ++ [(.inr (ei, List.replicate 6 .null) : xC)]).length = h.length + 1 := by simp
    have hz1 : xsz (h ++ [(.inr (ei, List.replicate 6 .null) : xC)]) = xsz h + 6 := by rw [xsz_app]; rfl
    rw [hl1, hz1] at hR
    have hW2 : s.WarmedH (T.setFrames (.invoking m args :: below)).vm := X.warmed
    have X2 := xrebase X (by omega) (by omega)
    generalize hs2 : T.setFrames (.invoking m args :: below) = s2 at X2 hW2
    have hh2 : s2.heap = H := by rw [← hs2]; exact hT
    have hts2 : ∀ w ∈ Ts, w.before args s2 = true := fun w hw => xgw_at hW2 (hG w hw) (hts w hw)
    have hU2 : XU base s2 := hU.go hW2 (fun q hq => by rw [hh2]; exact g4.2.1 q (Nat.lt_of_lt_of_le hq hbs) (Nat.not_le.mpr hq))
    have hown2 : s2.vm.findClass own = some m.cls := by rw [hW2.alike.findClass]; exact hown
    rw [← hb] at d0 d3 d4 d7
    obtain ⟨vm1, cC, kC, f1, f2, f3, f4, X3, st3⟩ := X2.newCold hx hown2 (hts2 _ w1) (hts2 _ w3) (hts2 _ w2) (g := F0 m pc rl (st.map (xv b base ta))) rfl d0 (by show 0 + 1 ≤ R.cells - _; omega) (by show 0 + 6 ≤ R.slots - _; omega)
    have hWd : W p l e { frames := R.frames, cells := R.cells - (h.length - n0), slots := R.slots - (xsz h - z0), locals := R.locals } s2 m args below meth c ((T.setVm vm1).pushCell { cls := cC, slots := kC.instanceTypes.map defaultValue, vm := .none }).heap [] (0 + 1) (0 + 6)
        (fun U => U.status = .running ∧ Ended U below (.threw H.size) ∧ s2.WarmedH U.vm ∧ s2.sameButNew ({ U with vm := s2.vm } : State) [] (0 + 1) (0 + 6) ∧ ∃ ce, U.heap[H.size]? = some ce ∧ Bundle.OwnCell args s2 q.1 H.size .null ce) (F0 m (pc + 3) rl (.ref H.size :: st.map (xv b base ta))) := by
      refine lv_dup hx rfl d3 rfl ?_
      intro T4 hT4 X4
      obtain ⟨U, a1, a2, a3, a4, a5, a6⟩ := X4.ctorThrow0 hx htr (own := own) (cls := q.1) (names := ["java/lang/RuntimeException", "java/lang/Exception"]) (ic := ic) hown2 hfit (by decide +kernel) (fun w hw => by
          rcases hat w hw with h9 | h9
          · exact hts2 w h9
          · exact hU2 args s2 (State.WarmedH.refl _) (fun _ _ => rfl) w h9) (fun x hx9 => by cases hx9) (a := H.size) f1 f2 (by rw [hT4, ← hT]; simp [State.pushCell, State.setVm]) (by rw [hh2]; exact Nat.le_refl _)
        (g := F0 m (pc + 3 + 1) rl (.ref H.size :: .ref H.size :: st.map (xv b base ta))) rfl (by show rl.size = _; rw [g1.1, hsz]) rfl rfl rfl d4 d7 (by rw [hno]; exact fun x hx9 => by cases hx9) (by show 2 + 3 < R.frames; omega) (by
          show 2 * 0 + _ + (13 * (2 + 1) + 41) ≤ R.locals
          rw [List.map_cons, List.sum_cons, xw_map]
          show 2 * 0 + (1 + xw st) + _ ≤ _
          omega) hlocks
      exact ⟨U, a1, a2, a3, a4, a5, a6⟩
    obtain ⟨U, st4, a2, a3, a4, a5, ce, a6, a7⟩ := hWd _ rfl X3
    have hsz2 : U.heap.size = H.size + 1 := by
      have e1 : U.heap.size ≤ s2.heap.size + (0 + 1) := a5.2.2.1
      have e2 := (Array.getElem?_eq_some_iff.mp a6).1
      rw [hh2] at e1
      omega
    have hold : ∀ x, x < H.size → U.heap[x]? = H[x]? := by
      intro x hx9
      obtain ⟨c9, hc9⟩ : ∃ c9, H[x]? = some c9 := ⟨_, Array.getElem?_eq_getElem hx9⟩
      obtain ⟨c8, q1, q2, q3, q4⟩ := a5.2.2.2.2.2 x c9 (by rw [hh2]; exact hc9)
      have q1 : U.heap[x]? = some c8 := q1
      rw [q1, hc9]
      have e3 : c8.slots = c9.slots := by
        apply Array.ext_getElem?
        intro i
        exact q4 i (by simp)
      rw [q2, e3]
    have hWU : s.WarmedH U.vm := State.WarmedH.trans hW2 a4
    have hP : va_P D cl (xws b base ta dA (h ++ [.inr (ei, List.replicate 6 .null)])) U.heap := by
      rw [xws_app]
      refine (g3.kept (fun k q hk => hold q.1 ((g3 k q hk).lt))).app (fun k q9 hk => ?_)
      have hz9 : k < 1 := (List.getElem?_eq_some_iff.mp hk).1
      rw [show k = 0 by omega] at hk
      cases hk
      refine ⟨q, hq, ce, by rw [← g2]; exact a6, ?_, a7.vm, fun k hk => ?_⟩
      · have e4 := a7.cls
        rw [hW2.alike.findClass, (hK.1 ei q hq).2.1] at e4
        exact (Option.some.inj e4).symm
      · rw [hq0] at hk
        exact absurd hk (Nat.not_lt_zero _)
    have hTU : T.sameButNew ({ U with vm := T.vm } : State) [] (0 + 1) (0 + 6) := by
      rw [← hs2] at a5
      obtain ⟨b1, b2⟩ := a5
      refine ⟨?_, b2⟩
      rw [State.setFrames_setFrames] at b1
      exact b1
    refine ⟨U, st3 U (by rw [hT]; exact st4), .threw (base + h.length), locs ++ [], a2, by rw [← g2]; exact a3, hWU, ?_, by rw [hsz2, g2, hl1]; omega, hP, ⟨by rw [hsz2]; have := g4.1; omega, fun x hx9 hA9 => (hold x (Nat.lt_of_lt_of_le hx9 g4.1)).trans (g4.2.1 x hx9 hA9), fun x hx9 => g4.2.2 x (by simpa using hx9)⟩, rfl⟩
    have e5 := X.same.trans (hTU.setVm s.vm)
    rw [hl1, hz1, show h.length + 1 - n0 = h.length - n0 + (0 + 1) by omega, show xsz h + 6 - z0 = xsz h - z0 + (0 + 6) by omega]
    exact e5
  · cases hs
end XTHROW
end
section
/-! AN EXCEPTION OUT OF A CALL: through the caller, or caught in it -/
/-- by these rows of handlers an exception of the class X that comes out of the call at pc is caught, and the method goes on at q -/
def xokH (Ts : List Cond) (own : String) (nc : List (String × String)) (ns : List String) (pc : Nat) (X : String) (q : Nat) : List (Nat × Nat × Nat × Nat) → Prop
  | [] => False
  | y :: t => (¬ (y.1 ≤ pc ∧ pc < y.2.1) ∧ xokH Ts own nc ns pc X q t) ∨ ((y.1 ≤ pc ∧ pc < y.2.1) ∧ y.2.2.2 ≠ 0 ∧ ((y.2.2.1 = q ∧ Cond.classLink own y.2.2.2 X ∈ Ts) ∨ ((∃ nm ∈ ns, Cond.classLink own y.2.2.2 nm ∈ Ts ∧ (X, nm) ∈ nc) ∧ xokH Ts own nc ns pc X q t)))
section XCATCH
variable {p : Program} {l : Launch} {e : Env} {R : Room} {s : State} {m : MethodId} {args : Array Value} {below : List Frame} {meth : Method} {c : Code} {Q : State → Prop}
variable {b base : Nat} {ta : (Nat → Nat) × Option Nat} {dA : Nat → ClassId} {D : va_G} {cl : List vw_C} {n0 z0 : Nat} {cc : ByteArray} {pc q : Nat} {ls : xL} {st : List Value} {h : xH}
variable {Ts : List Cond} {ty : Nat → FieldType} {own : String} {ini : Bool} {L : Nat} {xs : Nat → Int32} {nc : List (String × String)} {ns : List String} {lit : List (List Int32)} {ldcs : List (String × Nat × String × Nat)}
/-- no handler covers the call: the exception leaves the caller too -/
theorem xt_out {ei a : Nat} (hlocks : meth.locks = false) (hno : ∀ x ∈ c.exceptionTable.toList, covers x pc = false) : XT p l e R s m args below meth c (XQ below s b base ta dA D cl n0 z0 (.inr (ei, a)) h) b base ta dA D cl n0 z0 pc ls st h a := by
  intro H locs rl g1 g2 g3 g4 T hT X
  obtain ⟨a1, a2, a3, a4, a5⟩ := X.leaveThrown (base + a) (g := F0 m pc rl (st.map (xv b base ta))) rfl rfl rfl hno hlocks
  refine ⟨_, a1, .threw (base + a), locs, a2, a3, a4, a5, ?_, ?_, ?_, rfl⟩
  · show T.heap.size = _
    rw [hT]; exact g2
  · show va_P D cl _ T.heap
    rw [hT]; exact g3
  · show va_S _ s.heap T.heap locs
    rw [hT]; exact g4
theorem xokH_split {X : String} (hpl : e.platform.magicAccessors = ({} : Platform).magicAccessors) (hown : s.vm.findClass own = some m.cls) (hts : ∀ w ∈ Ts, w.before args s = true) (hV : XV nc s) {cX : ClassId} (hX : s.vm.findClass X = some cX) :
    ∀ (es : List ExceptionTableEntry), xokH Ts own nc ns pc X q (es.map (fun h => (h.startPc, h.endPc, h.handlerPc, h.catchType))) → ∃ pre x rest, es = pre ++ x :: rest ∧ (∀ y ∈ pre, RowPassed e.platform s m.cls pc cX y) ∧ covers x pc = true ∧ x.handlerPc = q ∧ x.catchType ≠ 0 ∧ (Cond.classLink own x.catchType X).before args s = true := by
  intro es
  induction es with
  | nil => intro h; cases h
  | cons y t ih =>
    intro h
    rcases h with ⟨h1, h2⟩ | ⟨h1, h2, h3⟩
    · obtain ⟨pre, x, rest, e1, e2, e3⟩ := ih h2
      refine ⟨y :: pre, x, rest, by rw [e1]; rfl, fun z hz => ?_, e3⟩
      rcases List.mem_cons.mp hz with rfl | hz
      · refine Or.inl ?_
        unfold covers
        have h1 : ¬ (z.startPc ≤ pc ∧ pc < z.endPc) := h1
        simp only [Bool.and_eq_false_imp, decide_eq_true_eq, decide_eq_false_iff_not]
        exact fun h9 h8 => h1 ⟨h9, h8⟩
      · exact e2 z hz
    · have hcov : covers y pc = true := by
        have h1 : y.startPc ≤ pc ∧ pc < y.endPc := h1
        unfold covers
        simp [h1.1, h1.2]
      rcases h3 with ⟨h4, h5⟩ | ⟨⟨nm, -, h5, h6⟩, h7⟩
      · exact ⟨[], y, t, rfl, (fun z hz => by cases hz), hcov, h4, h2, hts _ h5⟩
      · obtain ⟨pre, x, rest, e1, e2, e3⟩ := ih h7
        refine ⟨y :: pre, x, rest, by rw [e1]; rfl, fun z hz => ?_, e3⟩
        rcases List.mem_cons.mp hz with rfl | hz
        · exact RowPassed.of_words hpl hown h2 (hts _ h5) hX (hV _ h6 args s (State.WarmedH.refl s))
        · exact e2 z hz
/-- a handler takes it -/
theorem xt_catch {ei a : Nat} {fs : List Value} {r : vw_C} (F : XF p s m args meth c b base dA D cl Ts ty L xs ta lit ldcs cc own ini) (hV : XV nc s) (hr : cl[ei]? = some r) (ha : h[a]? = some (.inr (ei, fs))) {hdl : List (Nat × Nat × Nat × Nat)} (hh : c.exceptionTable.toList.map (fun h => (h.startPc, h.endPc, h.handlerPc, h.catchType)) = hdl) (hok : xokH Ts own nc ns pc r.1 q hdl)
    (hn : n0 ≤ h.length) (hz : z0 ≤ xsz h) (K : XK p l e R s m args below meth c Q b base ta dA D cl n0 z0 q ls [.ref a] h) : XT p l e R s m args below meth c Q b base ta dA D cl n0 z0 pc ls st h a := by
  obtain ⟨hx, hb, hown, hts, hK, hA, hX, hbl, hbs, hini, hTx⟩ := F
  intro H locs rl g1 g2 g3 g4 T hT X
  have hpl : e.platform.magicAccessors = ({} : Platform).magicAccessors := by rw [X.admits.platform]
  have hcls := (hK.1 ei r hr).2
  subst hh
  obtain ⟨pre, x, rest, e1, e2, e3, e4, e5, e6⟩ := xokH_split (args := args) (m := m) hpl hown hts hV hcls.1 _ hok
  obtain ⟨r', hr', cell, c1, c2, c3, -⟩ := g3 a _ (xws_get ha)
  have hcat := X.catches_of_link hown e5 e6 hcls.1 (va_assign hcls)
  rw [← c2] at hcat e2
  obtain ⟨vm', X', st'⟩ := X.caughtThrough (base + a) (g := F0 m pc rl (st.map (xv b base ta))) rfl (by rw [hT]; exact c1) (by rw [c3]; rfl) hcat.2 pre x rest e1 e2 e3 hcat.1
  obtain ⟨t, a1, b1⟩ := K hn hz H locs rl g1 g2 g3 g4 (T.setVm vm') hT X'
  refine ⟨t, ?_, b1⟩
  rw [X.pushThrowing_eq]
  refine st' t ?_
  rw [e4]
  exact a1
end XCATCH
end
section
/-! A METHOD'S ENTRY, AND WHAT EVERY STEP KEEPS -/
section XENT
variable {b base : Nat} {ta : (Nat → Nat) × Option Nat}
theorem xent_sl (as : List Value) : lg_sl (as.map (xv b base ta)) = (xfl as).map (fun o => match o with | some v => Slot.val (xv b base ta v) | none => Slot.second) := by
  unfold lg_sl xfl
  induction as with
  | nil => rfl
  | cons v t ih =>
    rw [List.map_cons, List.flatMap_cons, List.flatMap_cons, List.map_append, ih, xv_cat']
    congr 1
    by_cases hc : v.category = 2 <;> simp [hc]
theorem xls_entry (as : List Value) (n : Nat) (hn : (xent as n).length = n) : xls b base ta (xent as n) (lg_sl (as.map (xv b base ta)) ++ List.replicate (n - (lg_sl (as.map (xv b base ta))).length) Slot.unset).toArray := by
  have hlen : (lg_sl (as.map (xv b base ta))).length = (xfl as).length := by rw [xent_sl, List.length_map]
  have hle : (lg_sl (as.map (xv b base ta))).length ≤ n := by
    rw [hlen]
    simp only [xent, List.length_append, List.length_replicate] at hn
    omega
  obtain ⟨h1, h2, -⟩ := lv_entry (as.map (xv b base ta)) (n := n) hle
  refine ⟨by rw [h1, hn], h2, fun i v hi => ?_⟩
  simp only [xent] at hi
  rw [List.getElem?_toArray]
  have hl : i < (xfl as).length := by
    rcases Nat.lt_or_ge i (xfl as).length with q | q
    · exact q
    · rw [List.getElem?_append_right q, List.getElem?_replicate] at hi
      split at hi <;> cases hi
  rw [List.getElem?_append_left hl] at hi
  rw [List.getElem?_append_left (by rw [hlen]; exact hl), xent_sl, List.getElem?_map, hi]
  rfl
end XENT
section XKEEP
variable {nf : Nat → List Value} {L : Nat} {xs : Nat → Int32} {mc : Nat → Option Nat} {lit : List (List Int32)} {ldcs : List (String × Nat × String × Nat)}
theorem xset_len {ls ls' : xL} {i : Nat} {v : Value} (h : xset ls i v = some ls') : ls'.length = ls.length := by
  rw [(xset_spec h).2.1, List.length_set]
set_option maxHeartbeats 2000000 in
/-- a step that goes on keeps the number of locals, and the heap doesn't shrink -/
theorem xstep_keep {o : xI} {pc pc' : Nat} {ls ls' : xL} {st st' : List Value} {h h' : xH} (hs : xstep nf L xs lit mc o pc ls st h = some (.inl (pc', ls', st', h'))) : ls'.length = ls.length ∧ h.length ≤ h'.length ∧ xsz h ≤ xsz h' := by
  have hset : ∀ {a : Nat} {c0 c1 : xC}, h[a]? = some c0 → xcz c1 = xcz c0 → h.length ≤ (h.set a c1).length ∧ xsz h ≤ xsz (h.set a c1) := fun h1 h2 => ⟨by rw [List.length_set]; exact Nat.le_refl _, by rw [xsz_set h1 h2]; exact Nat.le_refl _⟩
  have happ : ∀ (cs : List xC), h.length ≤ (h ++ cs).length ∧ xsz h ≤ xsz (h ++ cs) := fun cs => ⟨by rw [List.length_append]; omega, by unfold xsz; rw [List.map_append, List.sum_append]; omega⟩
  obtain ⟨i1, n1, x1, x2⟩ := o
  unfold xstep at hs
  split at hs <;> (try (cases hs; done)) <;> (try (cases hs; exact ⟨rfl, Nat.le_refl _, Nat.le_refl _⟩)) <;>
    (repeat' (split at hs)) <;> (try (cases hs; done)) <;> (try (cases hs; exact ⟨rfl, Nat.le_refl _, Nat.le_refl _⟩)) <;> (try (cases hs; exact ⟨rfl, happ _⟩)) <;> (try (cases hs; exact ⟨xset_len (by assumption), Nat.le_refl _, Nat.le_refl _⟩)) <;> (try (cases hs; exact ⟨rfl, hset (by assumption) (by simp [xcz])⟩))
end XKEEP
end
